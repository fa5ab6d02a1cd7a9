/-! THE REFERENCE: digested -/
abbrev LDg : List Nat := [290, 291, 292, 293, 299, 303, 304, 305, 361, 362, 363, 364, 367, 370]
abbrev LDh : List Nat := [291, 292, 293, 299, 303, 304, 305, 370]
/-- rows of hashes -/
def rhS (S : ks_S) : Prop := mhR S ∧ mrR S ∧ (∃ g, kO g ∧ S.2.2 305 = some (kB 32 g)) ∧ ∃ g, kO g ∧ S.2.2 370 = some (kB 32 g)
theorem rhS.non {S : ks_S} (h : rhS S) : ∀ x ∈ LDh, ∃ e, S.2.2 x = some e ∧ ∀ g, e ≠ kB 520 g := fun x hx => by
  obtain ⟨⟨⟨g1, k1, a1⟩, ⟨F, a2⟩, ⟨f, a3⟩, a4, a5, ⟨f9, a6⟩⟩, ⟨b1, b2, b3, ⟨f3, b4⟩, ⟨f4, b5⟩⟩, ⟨g5, k5, c1⟩, ⟨g7, k7, c2⟩⟩ := h
  simp only [List.mem_cons, List.not_mem_nil, or_false] at hx
  rcases hx with rfl | rfl | rfl | rfl | rfl | rfl | rfl | rfl
  · exact ⟨_, a1, fun g h => absurd (kB_lq h) (by decide)⟩
  · exact ⟨_, a2, fun g h => by cases h⟩
  · exact ⟨_, a3, fun g h => by cases h⟩
  · exact ⟨_, a6, fun g h => by cases h⟩
  · exact ⟨_, b4, fun g h => by cases h⟩
  · exact ⟨_, b5, fun g h => by cases h⟩
  · exact ⟨_, c1, fun g h => absurd (kB_lq h) (by decide)⟩
  · exact ⟨_, c2, fun g h => absurd (kB_lq h) (by decide)⟩
/-- hash rows stay over what the stack does -/
theorem rhS.sf {S S1 : ks_S} {L : List Nat} {F F' : Nat} (h : rhS S) (hs : sfK L S S1 F F') (hL : ∀ x ∈ L, x < 291 ∨ (305 < x ∧ x < 370) ∨ 370 < x) : rhS S1 := by
  obtain ⟨⟨⟨g1, k1, a1⟩, ⟨F, a2⟩, ⟨f, a3⟩, a4, a5, ⟨f9, a6⟩⟩, ⟨b1, b2, b3, ⟨f3, b4⟩, ⟨f4, b5⟩⟩, ⟨g5, k5, c1⟩, ⟨g7, k7, c2⟩⟩ := h
  have nn : ∀ a, (291 ≤ a ∧ a ≤ 305) ∨ a = 370 → a ∉ L := fun a ha hm => by have := hL a hm; omega
  exact ⟨⟨⟨g1, k1, hs.2 _ _ a1 (nn _ (by decide)) (fun g h => absurd (kB_lq h) (by decide))⟩, ⟨F, hs.2 _ _ a2 (nn _ (by decide)) (fun g h => by cases h)⟩, ⟨f, hs.2 _ _ a3 (nn _ (by decide)) (fun g h => by cases h)⟩, hs.2 _ _ a4 (nn _ (by decide)) (fun g h => by cases h), hs.2 _ _ a5 (nn _ (by decide)) (fun g h => by cases h), ⟨f9, hs.2 _ _ a6 (nn _ (by decide)) (fun g h => by cases h)⟩⟩, ⟨hs.2 _ _ b1 (nn _ (by decide)) (fun g h => by cases h), hs.2 _ _ b2 (nn _ (by decide)) (fun g h => by cases h), hs.2 _ _ b3 (nn _ (by decide)) (fun g h => by cases h), ⟨f3, hs.2 _ _ b4 (nn _ (by decide)) (fun g h => by cases h)⟩, ⟨f4, hs.2 _ _ b5 (nn _ (by decide)) (fun g h => by cases h)⟩⟩, ⟨g5, k5, hs.2 _ _ c1 (nn _ (by decide)) (fun g h => absurd (kB_lq h) (by decide))⟩, ⟨g7, k7, hs.2 _ _ c2 (nn _ (by decide)) (fun g h => absurd (kB_lq h) (by decide))⟩⟩
set_option maxRecDepth 100000 in
set_option maxHeartbeats 800000 in
theorem c_rs_digested {l : Launch} {G : ks_G} {d : Nat} {S : ks_S} {V : Nat → Value} {F : Nat} {xs ys : List (List Nat)} {vs : Vs} (hO : S.2.2 290 = some (rfE V)) (hK : rsQ S V F xs ys vs) {op : Nat} (hop : op = 166 ∨ op = 168 ∨ op = 169 ∨ op = 170) (hx0 : 0 < xs.length) (hl : xs.length ≤ 1000) (hh : rhS S) : ks_P l G yX16_digested mX16_digested (d + 5) [.ref 290, .int (nI op)] S (fun z S' => z = none ∧ ∃ V' F', sfK LDg S S' F F' ∧ S'.2.2 290 = some (rfE V') ∧ (∀ k, k ≠ 67 → k ≠ 70 → k ≠ 74 → V' k = V k) ∧ V' 74 = V 74 ∧ rsQ S' V' F' (hsS op (xs.getD 0 []) :: xs.drop 1) ys vs ∧ rhS S') := by
  have hQ := hK
  obtain ⟨T, sz, oz, vz, hK', rfl, gS, kS, h367⟩ := hK
  have hK := hK'
  obtain ⟨hT, ⟨h362, h364, h366⟩, ⟨v67, v70, v73⟩, ⟨bx, by9, bv⟩, hx, hys, hvs, hU⟩ := id hK
  obtain ⟨r, g, a1, a2, a3, a4, a5⟩ := hx (xs.length - 1) (by omega)
  rw [Nat.sub_self] at a5
  obtain ⟨hM, hR, ⟨g5, k5, h305⟩, ⟨g7, k7, h370⟩⟩ := id hh
  have rn : r ∉ LDh := fun hm => by obtain ⟨e, e1, e2⟩ := hh.non r hm; rw [a2] at e1; exact e2 g (Option.some.inj e1).symm
  have r291 : r ≠ 291 := fun h => rn (by rw [h]; decide)
  obtain ⟨n, en⟩ : ∃ n, n = sz (xs.length - 1) := ⟨_, rfl⟩
  rw [← en] at a4 a5
  have tail : ∀ (S1 : ks_S) (D : Nat → Nat) (q : Nat), ks_up S S1 LDh → rhS S1 → (q = 20 ∨ q = 32) → S1.2.2 370 = some (kB 32 (ks_pt D g7 0 q)) → kO (ks_pt D g7 0 q) → bytL D 0 q = hsS op (xs.getD 0 []) → (q = 20 ↔ (op = 166 ∨ op = 169)) → ks_X l G mX16_digested (d + 5) 102 [(0, .ref 290), (1, .int (nI op))] [] S1 (fun z S' => z = none ∧ ∃ V' F', sfK LDg S S' (frT T) F' ∧ S'.2.2 290 = some (rfE V') ∧ (∀ k, k ≠ 67 → k ≠ 70 → k ≠ 74 → V' k = V k) ∧ V' 74 = V 74 ∧ rsQ S' V' F' (hsS op (xs.getD 0 []) :: xs.drop 1) ys vs ∧ rhS S') := by
    intro S1 D q u1 hh1 hq e7 kD eD hq2
    have o1 := u1.at hO (by decide)
    have K1 := hQ.up u1 (by decide) hh.non
    obtain ⟨K2, M2⟩ := rsQ.pop (k := 1) o1 K1
    have ld : (xs.drop 1).length = xs.length - 1 := List.length_drop
    have p : ∀ (X : ks_S), X = ks_set S1 290 (rfE (va_up V 67 (.int (nI (xs.length - 1))))) → ks_X l G mX16_digested (d + 5) 139 [(0, .ref 290), (1, .int (nI op))] [.int (nI q), .int (nI 0), .ref 370, .ref 290] X (fun z S' => z = none ∧ ∃ V' F', sfK LDg S S' (frT T) F' ∧ S'.2.2 290 = some (rfE V') ∧ (∀ k, k ≠ 67 → k ≠ 70 → k ≠ 74 → V' k = V k) ∧ V' 74 = V 74 ∧ rsQ S' V' F' (hsS op (xs.getD 0 []) :: xs.drop 1) ys vs ∧ rhS S') := by
      intro X hX
      rw [← hX] at K2 M2
      obtain ⟨T2, sz2, oz2, vz2, KK2, eF, gS2, kS2, i367⟩ := id K2
      have e72 : X.2.2 370 = some (kB 32 (ks_pt D g7 0 q)) := by rw [hX]; exact (ks_set_ne _ _ (by decide)).trans e7
      have ne : T2 0 (xs.drop 1).length ≠ some 370 := fun h => by
        obtain ⟨-, g9, -, h9⟩ := KK2.1.2.2.1 _ _ _ h
        rw [e72] at h9
        exact absurd (kB_lq (Option.some.inj h9)) (by decide)
      refine ks_callV (n := 3) (M' := mX16_push) (c_rs_push (d := d + 3) M2.2.1 KK2 (y := 370) (at_ := 0) (n := q) e72 kD (by omega) (by decide) ne) M2.2.1 cl_X16 rfl kx_2177 kx_2179 kxp_90 kx_30 kx_2180 (by decide +kernel) rfl (by decide) (Nat.le_of_ble_eq_true rfl) rfl dX16_digested_139 rfl (fun z3 S3 y3 => ?_)
      obtain ⟨rfl, T3, sz3, V3, sf, o3, hv3, hc⟩ := y3
      refine ks_ret rfl dX16_digested_142 ?_
      have hh2 : rhS X := hh1.sf M2.1 (by decide)
      rcases hc with ⟨-, c1, c2, -, c3⟩ | ⟨c1, -⟩
      · rw [eF] at sf
        refine ⟨rfl, V3, frT T3, (((sfK.of (u1.mono (by decide))).trans (M2.1.mono (by decide))).trans (sf.mono (by decide))), o3, fun k h1 h2 h3 => (hv3 k h1 h3).trans (M2.2.2 k h1 h2 h3), c2.trans (va_up_ne _ _ (by decide)), ⟨T3, sz3, oz2, vz2, ?_, rfl, gS2, kS2, sf.2 367 _ i367 (by decide) (fun g h => absurd (kB_lq h) (by decide))⟩, hh2.sf sf (by decide)⟩
        rw [← eD, ← bytL_pt D g7 q]
        exact c3
      · exact absurd ⟨by omega, by rw [ld]; omega⟩ c1
    have v67' := v67
    refine ks_aload_n dX16_digested_102 rfl rfl ?_
    refine ks_dup dX16_digested_103 rfl rfl ?_
    refine ks_getf (T := TX16) (kf := 67) kx_2435 rfl in_X16 cl_X16 (by decide) o1 rfl dX16_digested_104 rfl ?_
    refine ks_tv v67 ?_
    refine ks_iconst (x := nI 1) dX16_digested_107 (by decide) rfl ?_
    refine ks_subN (by omega) dX16_digested_108 rfl ?_
    refine ks_putf (T := TX16) (kf := 67) kx_2435 rfl in_X16 tyX16_ok nmX16 cl_X16 (by decide) o1 (Nat.le_of_ble_eq_true rfl) rfl rfl rfl rfl dX16_digested_109 rfl ?_
    refine md_put mdp_67 ?_
    refine ks_aload_n dX16_digested_112 rfl rfl ?_
    refine ks_aload_n dX16_digested_113 rfl rfl ?_
    refine ks_getf (T := TX16) (kf := 86) kx_2454 rfl in_X16 cl_X16 (by decide) (ks_set_same _ _ _) rfl dX16_digested_114 rfl ?_
    refine ks_iconst (x := nI 0) dX16_digested_117 (by decide) rfl ?_
    refine ks_iload_n dX16_digested_118 rfl rfl ?_
    refine ks_sipush (x := nI 166) dX16_digested_119 (by decide) rfl ?_
    refine ks_icmp_eqN (tgt := 132) (by omega) (by decide) dX16_digested_122 (by decide) rfl (fun h1 => ?_) (fun h1 => ?_)
    · refine ks_bipush (x := nI 20) dX16_digested_132 (by decide) rfl ?_
      refine ks_goto (tgt := 139) dX16_digested_134 (by decide) ?_
      obtain rfl : q = 20 := by omega
      exact ks_sub [(0, _), (1, _)] rfl (p _ rfl)
    · refine ks_iload_n dX16_digested_125 rfl rfl ?_
      refine ks_sipush (x := nI 169) dX16_digested_126 (by decide) rfl ?_
      refine ks_icmp_neN (tgt := 137) (by omega) (by decide) dX16_digested_129 (by decide) rfl (fun h2 => ?_) (fun h2 => ?_)
      · refine ks_bipush (x := nI 32) dX16_digested_137 (by decide) rfl ?_
        obtain rfl : q = 32 := by omega
        exact ks_sub [(0, _), (1, _)] rfl (p _ rfl)
      · refine ks_bipush (x := nI 20) dX16_digested_132 (by decide) rfl ?_
        refine ks_goto (tgt := 139) dX16_digested_134 (by decide) ?_
        obtain rfl : q = 20 := by omega
        exact ks_sub [(0, _), (1, _)] rfl (p _ rfl)
  refine ks_of (by decide) rfl rfl (Nat.le_of_ble_eq_true rfl) ?_
  show ks_X l G mX16_digested (d + 5) 0 [(0, .ref 290), (1, .int (nI op))] [] S _
  refine ks_aload_n dX16_digested_0 rfl rfl ?_
  refine ks_getf (T := TX16) (kf := 65) kx_2433 rfl in_X16 cl_X16 (by decide) hO rfl dX16_digested_1 rfl ?_
  refine ks_aload_n dX16_digested_4 rfl rfl ?_
  refine ks_getf (T := TX16) (kf := 67) kx_2435 rfl in_X16 cl_X16 (by decide) hO rfl dX16_digested_5 rfl ?_
  refine ks_tv v67 ?_
  refine ks_iconst (x := nI 1) dX16_digested_8 (by decide) rfl ?_
  refine ks_subN (by omega) dX16_digested_9 rfl ?_
  refine ks_aaldN (i := xs.length - 1) (b := r) (by decide) (hT.1 0 (by decide)) rfl (by omega) (by decide) a1 dX16_digested_10 rfl ?_
  refine ks_astore_n dX16_digested_11 (by decide) rfl ?_
  refine ks_sub [(2, _), (0, _), (1, _)] rfl ?_
  refine ks_aload_n dX16_digested_12 rfl rfl ?_
  refine ks_getf (T := TX16) (kf := 66) kx_2434 rfl in_X16 cl_X16 (by decide) hO rfl dX16_digested_13 rfl ?_
  refine ks_aload_n dX16_digested_16 rfl rfl ?_
  refine ks_getf (T := TX16) (kf := 67) kx_2435 rfl in_X16 cl_X16 (by decide) hO rfl dX16_digested_17 rfl ?_
  refine ks_tv v67 ?_
  refine ks_iconst (x := nI 1) dX16_digested_20 (by decide) rfl ?_
  refine ks_subN (by omega) dX16_digested_21 rfl ?_
  refine ks_ialdN (i := xs.length - 1) h362 rfl (by omega) (by decide) dX16_digested_22 rfl ?_
  rw [← en]
  have gz : (fun k => g (0 + k)) = g := funext fun k => by rw [Nat.zero_add]
  refine ks_istore_n dX16_digested_23 (by decide) rfl ?_
  refine ks_sub [(3, _), (0, _), (1, _), (2, _)] rfl ?_
  refine ks_iload_n dX16_digested_24 rfl rfl ?_
  refine ks_sipush (x := nI 166) dX16_digested_25 (by decide) rfl ?_
  refine ks_icmp_neN (tgt := 46) (by omega) (by decide) dX16_digested_28 (by decide) rfl (fun h1 => ?_) (fun h1 => ?_)
  · refine ks_iload_n dX16_digested_46 rfl rfl ?_
    refine ks_sipush (x := nI 168) dX16_digested_47 (by decide) rfl ?_
    refine ks_icmp_neN (tgt := 68) (by omega) (by decide) dX16_digested_50 (by decide) rfl (fun h2 => ?_) (fun h2 => ?_)
    · refine ks_iload_n dX16_digested_68 rfl rfl ?_
      refine ks_sipush (x := nI 169) dX16_digested_69 (by decide) rfl ?_
      refine ks_icmp_neN (tgt := 90) (by omega) (by decide) dX16_digested_72 (by decide) rfl (fun h3 => ?_) (fun h3 => ?_)
      · refine ks_aload_n dX16_digested_90 rfl rfl ?_
        refine ks_aload_n dX16_digested_91 rfl rfl ?_
        refine ks_iconst (x := nI 0) dX16_digested_92 (by decide) rfl ?_
        refine ks_iload_n dX16_digested_93 rfl rfl ?_
        refine ks_aload_n dX16_digested_94 rfl rfl ?_
        refine ks_getf (T := TX16) (kf := 86) kx_2454 rfl in_X16 cl_X16 (by decide) hO rfl dX16_digested_95 rfl ?_
        refine ks_iconst (x := nI 0) dX16_digested_98 (by decide) rfl ?_
        refine ks_callV (n := 5) (M' := mX16_again) (c_md_again (d := d + 1) hO hM h305 k5 a2 a3 (i := 0) (n := n) (by omega) (by decide) h370 k7 (oa := 0) (by decide) (by decide) r291 (by decide)) hO cl_X16 rfl kx_1988 kx_1990 kxp_61 kx_30 kx_1991 (by decide +kernel) rfl (by decide) (Nat.le_of_ble_eq_true rfl) rfl dX16_digested_99 rfl (fun z2 S2 y2 => ?_)
        obtain ⟨rfl, u2, M2, i2, e2⟩ := y2
        rw [gz] at e2
        have kD : kO (ks_pt (twice_ g n) g7 0 32) := (kO_pts (sha_ g n) 32 g7 32 k7)
        have h9 : op = 170 := by omega
        exact ks_sub [(0, _), (1, _)] rfl (tail S2 (twice_ g n) 32 (u2.mono (by decide)) ⟨M2, (hR.up u2 (by decide)), i2, ⟨_, kD, e2⟩⟩ (by decide) e2 kD (by
          rw [a5, h9]
          unfold hsS
          rw [if_neg (by decide), if_neg (by decide), if_pos rfl, shaL_of, gz, shaL_of, show (fun k => sha_ g n (0 + k)) = sha_ g n from funext fun k => by rw [Nat.zero_add]]
          rfl) (by rw [h9]; decide))
      · refine ks_aload_n dX16_digested_75 rfl rfl ?_
        refine ks_aload_n dX16_digested_76 rfl rfl ?_
        refine ks_iconst (x := nI 0) dX16_digested_77 (by decide) rfl ?_
        refine ks_iload_n dX16_digested_78 rfl rfl ?_
        refine ks_aload_n dX16_digested_79 rfl rfl ?_
        refine ks_getf (T := TX16) (kf := 86) kx_2454 rfl in_X16 cl_X16 (by decide) hO rfl dX16_digested_80 rfl ?_
        refine ks_iconst (x := nI 0) dX16_digested_83 (by decide) rfl ?_
        refine ks_callV (n := 5) (M' := mX16_hash160) (c_md_hash160 (d := d) hO hM hR h305 k5 a2 a3 (i := 0) (n := n) (by omega) (by decide) h370 k7 (oa := 0) (by decide) (by decide) r291 (by decide)) hO cl_X16 rfl kx_2229 kx_2231 kxp_101 kx_30 kx_2232 (by decide +kernel) rfl (by decide) (Nat.le_of_ble_eq_true rfl) rfl dX16_digested_84 rfl (fun z2 S2 y2 => ?_)
        obtain ⟨rfl, u2, M2, R2, i2, e2⟩ := y2
        rw [gz] at e2
        have kD : kO (ks_pt (h160_ g n) g7 0 20) := (kO_ptr (sha_ g n) 32 g7 20 k7)
        have h9 : op = 169 := by omega
        refine ks_goto (tgt := 102) dX16_digested_87 (by decide) ?_
        exact ks_sub [(0, _), (1, _)] rfl (tail S2 (h160_ g n) 20 (u2.mono (by decide)) ⟨M2, R2, i2, ⟨_, kD, e2⟩⟩ (by decide) e2 kD (by
          rw [a5, h9]
          unfold hsS
          rw [if_neg (by decide), if_pos rfl, shaL_of, gz, ripL_of, show (fun k => sha_ g n (0 + k)) = sha_ g n from funext fun k => by rw [Nat.zero_add]]
          rfl) (by rw [h9]; decide))
    · refine ks_aload_n dX16_digested_53 rfl rfl ?_
      refine ks_aload_n dX16_digested_54 rfl rfl ?_
      refine ks_iconst (x := nI 0) dX16_digested_55 (by decide) rfl ?_
      refine ks_iload_n dX16_digested_56 rfl rfl ?_
      refine ks_aload_n dX16_digested_57 rfl rfl ?_
      refine ks_getf (T := TX16) (kf := 86) kx_2454 rfl in_X16 cl_X16 (by decide) hO rfl dX16_digested_58 rfl ?_
      refine ks_iconst (x := nI 0) dX16_digested_61 (by decide) rfl ?_
      refine ks_callV (n := 5) (M' := mX16_sha) (c_md_sha (d := d + 2) hO hM a2 a3 (i := 0) (n := n) (by omega) (by decide) h370 k7 (oa := 0) (by decide) (by decide) r291 (by decide)) hO cl_X16 rfl kx_1992 kx_1994 kxp_62 kx_30 kx_1995 (by decide +kernel) rfl (by decide) (Nat.le_of_ble_eq_true rfl) rfl dX16_digested_62 rfl (fun z2 S2 y2 => ?_)
      obtain ⟨rfl, u2, M2, e2⟩ := y2
      rw [gz] at e2
      have kD : kO (ks_pt (sha_ g n) g7 0 32) := (kO_pts g n g7 32 k7)
      have h9 : op = 168 := by omega
      refine ks_goto (tgt := 102) dX16_digested_65 (by decide) ?_
      exact ks_sub [(0, _), (1, _)] rfl (tail S2 (sha_ g n) 32 (u2.mono (by decide)) ⟨M2, (hR.up u2 (by decide)), ⟨g5, k5, u2.at h305 (by decide)⟩, ⟨_, kD, e2⟩⟩ (by decide) e2 kD (by
        rw [a5, h9]
        unfold hsS
        rw [if_neg (by decide), if_neg (by decide), if_neg (by decide), shaL_of, gz]) (by rw [h9]; decide))
  · refine ks_aload_n dX16_digested_31 rfl rfl ?_
    refine ks_aload_n dX16_digested_32 rfl rfl ?_
    refine ks_iconst (x := nI 0) dX16_digested_33 (by decide) rfl ?_
    refine ks_iload_n dX16_digested_34 rfl rfl ?_
    refine ks_aload_n dX16_digested_35 rfl rfl ?_
    refine ks_getf (T := TX16) (kf := 86) kx_2454 rfl in_X16 cl_X16 (by decide) hO rfl dX16_digested_36 rfl ?_
    refine ks_iconst (x := nI 0) dX16_digested_39 (by decide) rfl ?_
    refine ks_callV (n := 5) (M' := mX16_ripe) (c_md_ripe (d := d + 1) hO hM hR a2 a3 (i := 0) (n := n) (by omega) (by decide) h370 k7 (oa := 0) (by decide) (by decide) r291 (by decide)) hO cl_X16 rfl kx_2212 kx_2214 kxp_98 kx_30 kx_2215 (by decide +kernel) rfl (by decide) (Nat.le_of_ble_eq_true rfl) rfl dX16_digested_40 rfl (fun z2 S2 y2 => ?_)
    obtain ⟨rfl, u2, M2, R2, e2⟩ := y2
    rw [gz] at e2
    have kD : kO (ks_pt (ripe_ g n) g7 0 20) := (kO_ptr g n g7 20 k7)
    have h9 : op = 166 := by omega
    refine ks_goto (tgt := 102) dX16_digested_43 (by decide) ?_
    exact ks_sub [(0, _), (1, _)] rfl (tail S2 (ripe_ g n) 20 (u2.mono (by decide)) ⟨M2, R2, ⟨g5, k5, u2.at h305 (by decide)⟩, ⟨_, kD, e2⟩⟩ (by decide) e2 kD (by
      rw [a5, h9]
      unfold hsS
      rw [if_pos rfl, ripL_of, gz]) (by rw [h9]; decide))

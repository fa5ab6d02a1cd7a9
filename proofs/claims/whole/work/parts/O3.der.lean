/-! THE REFERENCE: a number of a signature -/
abbrev drK (S S' : ks_S) (V V' : Nat → Value) : Prop := pbK [542] [116] S S' V V'
theorem beB_b (V j : Nat) : beB V j < 256 := Nat.mod_lt _ (by decide)
set_option maxRecDepth 100000 in
set_option maxHeartbeats 800000 in
theorem l_drC {l : Launch} {G : ks_G} {d : Nat} {S : ks_S} {V : Nat → Value} {m : List Nat} {A p h : Nat} {a : Nat} {g3 : Nat → Nat} (hO : S.2.2 290 = some (rfE V)) (h543 : S.2.2 543 = some (kB 32 g3)) (k3 : kO g3) (hg3 : ∀ j, j < 32 → g3 j = beB A j) (hp : p ≤ 32) (hm : m.length + 32 ≤ 80) (hB : buX S V 542 80 116 m) {w3 : Value} {P9 : Option Value → ks_S → Prop} (hk : ∀ (S1 : ks_S) (V1 : Nat → Value), pbK [542] [116] S S1 V V1 → buX S1 V1 542 80 116 (m ++ bytL (beB A) p (32 - p)) → P9 none S1) : ∀ (u j : Nat) (S1 : ks_S) (V1 : Nat → Value), j + u = 32 - p → pbK [542] [116] S S1 V V1 → buX S1 V1 542 80 116 (m ++ bytL (beB A) p j) → ks_X l G mX16_der d 117 [(0, .ref 290), (1, .ref a), (2, .int (nI (p + j))), (3, w3)] [] S1 P9 := by
  intro u
  induction u with
  | zero =>
    intro j S1 V1 hj K1 B1
    obtain rfl : j = 32 - p := hj
    refine ks_iload_n dX16_der_117 rfl rfl ?_
    refine ks_bipush (x := nI 32) dX16_der_118 (by decide) rfl ?_
    refine ks_icmp_geN (tgt := 154) (by omega) (by decide) dX16_der_120 (by decide) rfl (fun h1 => ?_) (fun h1 => absurd h1 (by omega))
    refine ks_ret rfl dX16_der_154 ?_
    exact hk S1 V1 K1 B1
  | succ u ih =>
    intro j S1 V1 hj K1 B1
    obtain ⟨X, eX⟩ : ∃ X, X = m ++ bytL (beB A) p j := ⟨_, rfl⟩
    have lX : X.length = m.length + j := by rw [eX, List.length_append, bytL_len]
    rw [← eX] at B1
    obtain ⟨vf, g, e1, kg, hl, em⟩ := B1
    have s1 := K1.1.at h543 (by decide)
    refine ks_iload_n dX16_der_117 rfl rfl ?_
    refine ks_bipush (x := nI 32) dX16_der_118 (by decide) rfl ?_
    refine ks_icmp_geN (tgt := 154) (by omega) (by decide) dX16_der_120 (by decide) rfl (fun h1 => absurd h1 (by omega)) (fun h1 => ?_)
    refine ks_aload_n dX16_der_123 rfl rfl ?_
    refine ks_getf (T := TX16) (kf := 115) kx_2483 rfl in_X16 cl_X16 (by decide) K1.2.1 rfl dX16_der_124 rfl ?_
    refine ks_aload_n dX16_der_127 rfl rfl ?_
    refine ks_getf (T := TX16) (kf := 116) kx_2484 rfl in_X16 cl_X16 (by decide) K1.2.1 rfl dX16_der_128 rfl ?_
    refine ks_tv vf ?_
    refine ks_aload_n dX16_der_131 rfl rfl ?_
    refine ks_getf (T := TX16) (kf := 117) kx_2485 rfl in_X16 cl_X16 (by decide) K1.2.1 rfl dX16_der_132 rfl ?_
    refine ks_iload_n dX16_der_135 rfl rfl ?_
    refine ks_baldB (i := p + j) s1 rfl (by omega) (by decide) dX16_der_136 rfl ?_
    refine ks_bastB (i := X.length) (c := g3 (p + j)) e1 rfl (by omega) (by decide) (ks_by_b (k3 _)) dX16_der_137 rfl ?_
    refine ks_aload_n dX16_der_138 rfl rfl ?_
    refine ks_dup dX16_der_139 rfl rfl ?_
    refine ks_getf (T := TX16) (kf := 116) kx_2484 rfl in_X16 cl_X16 (by decide) ((ks_set_ne _ _ (by decide)).trans K1.2.1) rfl dX16_der_140 rfl ?_
    refine ks_tv vf ?_
    refine ks_iconst (x := nI 1) dX16_der_143 (by decide) rfl ?_
    refine ks_addN dX16_der_144 rfl ?_
    refine ks_putf (T := TX16) (kf := 116) kx_2484 rfl in_X16 tyX16_ok nmX16 cl_X16 (by decide) ((ks_set_ne _ _ (by decide)).trans K1.2.1) (Nat.le_of_ble_eq_true rfl) rfl rfl rfl rfl dX16_der_145 rfl ?_
    refine md_put mdp_116 ?_
    refine ks_incN (c := 1) (e := p + j + 1) dX16_der_148 rfl (by decide) rfl (by decide) rfl ?_
    refine ks_sub [(2, _), (0, _), (1, _), (3, _)] rfl ?_
    refine ks_goto (tgt := 117) dX16_der_151 (by decide) ?_
    refine ks_sub [(0, _), (1, _), (2, _), (3, _)] rfl (ih (j + 1) _ (va_up V1 116 (.int (nI (X.length + 1)))) (by omega) (K1.trans ⟨(ks_up_set (L := [290, 542]) S1 (a := 542) (kB 80 (va_up g X.length (g3 (p + j)))) (by decide)).trans (ks_up_set _ _ (by decide)), ks_set_same _ _ _, fun k hk => va_up_ne _ _ (fun e => hk (by rw [e]; decide))⟩) ?_)
    have e9 : m ++ bytL (beB A) p (j + 1) = X ++ [g3 (p + j)] := by rw [eX, bytL_s, List.append_assoc, hg3 (p + j) (by omega)]
    rw [e9]
    exact ⟨by rw [va_up_self, List.length_append]; rfl, va_up g X.length (g3 (p + j)), (ks_set_ne _ _ (by decide)).trans (ks_set_same _ _ _), kO_up kg (k3 _), by rw [List.length_append]; show X.length + 1 ≤ _; omega, by rw [List.length_append]; exact bytL_app1 (x := []) em⟩
set_option maxRecDepth 100000 in
set_option maxHeartbeats 1600000 in
theorem l_drM {l : Launch} {G : ks_G} {d : Nat} {S : ks_S} {V : Nat → Value} {m : List Nat} {A p : Nat} {a : Nat} {g3 : Nat → Nat} (hO : S.2.2 290 = some (rfE V)) (h543 : S.2.2 543 = some (kB 32 g3)) (k3 : kO g3) (hg3 : ∀ j, j < 32 → g3 j = beB A j) (hp : p ≤ 31) (hpz : fzN (beB A) 31 0 = p) (hm : m.length + 36 ≤ 80) (hB : buX S V 542 80 116 m) {P9 : Option Value → ks_S → Prop} (hk : ∀ (S1 : ks_S) (V1 : Nat → Value), pbK [542] [116] S S1 V V1 → buX S1 V1 542 80 116 (m ++ derB A) → P9 none S1) : ks_X l G mX16_der d 32 [(0, .ref 290), (1, .ref a), (2, .int (nI p))] [] S P9 := by
  obtain ⟨vf, g, e1, kg, hl, em⟩ := id hB
  refine ks_aload_n dX16_der_32 rfl rfl ?_
  refine ks_getf (T := TX16) (kf := 117) kx_2485 rfl in_X16 cl_X16 (by decide) hO rfl dX16_der_33 rfl ?_
  refine ks_iload_n dX16_der_36 rfl rfl ?_
  refine ks_baldB (i := p) h543 rfl (by omega) (by decide) dX16_der_37 rfl ?_
  refine ks_if_geY (tgt := 45) (k3 _) dX16_der_38 (by decide) rfl (fun h1 => ?_) (fun h1 => ?_)
  · refine ks_iconst (x := nI 0) dX16_der_45 (by decide) rfl ?_
    refine ks_istore_n dX16_der_46 (by decide) rfl ?_
    refine ks_sub [(3, _), (0, _), (1, _), (2, _)] rfl ?_
    refine ks_aload_n dX16_der_47 rfl rfl ?_
    refine ks_getf (T := TX16) (kf := 115) kx_2483 rfl in_X16 cl_X16 (by decide) hO rfl dX16_der_48 rfl ?_
    refine ks_aload_n dX16_der_51 rfl rfl ?_
    refine ks_getf (T := TX16) (kf := 116) kx_2484 rfl in_X16 cl_X16 (by decide) hO rfl dX16_der_52 rfl ?_
    refine ks_tv vf ?_
    refine ks_iconst (x := nI 2) dX16_der_55 (by decide) rfl ?_
    refine ks_bastB (i := m.length) (c := 2) e1 rfl (by omega) (by decide) (ks_by_nI _) dX16_der_56 rfl ?_
    refine ks_aload_n dX16_der_57 rfl rfl ?_
    refine ks_getf (T := TX16) (kf := 115) kx_2483 rfl in_X16 cl_X16 (by decide) ((ks_set_ne _ _ (by decide)).trans hO) rfl dX16_der_58 rfl ?_
    refine ks_aload_n dX16_der_61 rfl rfl ?_
    refine ks_getf (T := TX16) (kf := 116) kx_2484 rfl in_X16 cl_X16 (by decide) ((ks_set_ne _ _ (by decide)).trans hO) rfl dX16_der_62 rfl ?_
    refine ks_tv vf ?_
    refine ks_iconst (x := nI 1) dX16_der_65 (by decide) rfl ?_
    refine ks_addN dX16_der_66 rfl ?_
    refine ks_bipush (x := nI 32) dX16_der_67 (by decide) rfl ?_
    refine ks_iload_n dX16_der_69 rfl rfl ?_
    refine ks_subN (by omega) dX16_der_70 rfl ?_
    refine ks_iload_n dX16_der_71 rfl rfl ?_
    refine ks_if_eqN (tgt := 79) (by decide) dX16_der_72 (by decide) rfl (fun hc72 => ?_) (fun hc72 => ?_)
    · refine ks_iconst (x := nI 0) dX16_der_79 (by decide) rfl ?_
      refine ks_addN dX16_der_80 rfl ?_
      refine ks_i2b dX16_der_81 rfl ?_
      refine ks_bastB (i := m.length + 1) (c := ((32 - p) + 0) % 256) (ks_set_same _ _ _) rfl (by omega) (by decide) ((ks_by_i8 _).trans (ks_by_nI _)) dX16_der_82 rfl ?_
      refine ks_aload_n dX16_der_83 rfl rfl ?_
      refine ks_dup dX16_der_84 rfl rfl ?_
      refine ks_getf (T := TX16) (kf := 116) kx_2484 rfl in_X16 cl_X16 (by decide) ((ks_set_ne _ _ (by decide)).trans ((ks_set_ne _ _ (by decide)).trans hO)) rfl dX16_der_85 rfl ?_
      refine ks_tv vf ?_
      refine ks_iconst (x := nI 2) dX16_der_88 (by decide) rfl ?_
      refine ks_addN dX16_der_89 rfl ?_
      refine ks_putf (T := TX16) (kf := 116) kx_2484 rfl in_X16 tyX16_ok nmX16 cl_X16 (by decide) ((ks_set_ne _ _ (by decide)).trans ((ks_set_ne _ _ (by decide)).trans hO)) (Nat.le_of_ble_eq_true rfl) rfl rfl rfl rfl dX16_der_90 rfl ?_
      refine md_put mdp_116 ?_
      refine ks_iload_n dX16_der_93 rfl rfl ?_
      refine ks_if_eqN (tgt := 117) (by decide) dX16_der_94 (by decide) rfl (fun hc94 => ?_) (fun hc94 => ?_)
      · refine ks_nm (fun S2 e2 => ?_)
        have X2 : S2.2.2 542 = some (kB 80 (va_up (va_up g m.length 2) (m.length + 1) (((32 - p) + 0) % 256))) := by rw [e2]; exact ((ks_set_ne _ _ (by decide)).trans (ks_set_same _ _ _))
        have O2 : S2.2.2 290 = some (rfE (va_up V 116 (.int (nI (m.length + 2))))) := by rw [e2]; exact ks_set_same _ _ _
        have u2 : ks_up S S2 [290, 542] := by rw [e2]; exact ks_upL (ks_upL (ks_up_set (L := [290, 542]) _ _ (by decide)) (by decide)) (by decide)
        clear e2
        have hb : g3 p = beB A p := hg3 p (by omega)
        have K2 : pbK [542] [116] S S2 V (va_up V 116 (.int (nI (m.length + 2)))) := ⟨u2, O2, fun k hk => va_up_ne _ _ (fun e => hk (by rw [e]; decide))⟩
        have eG : bytL (va_up (va_up g m.length 2) (m.length + 1) (((32 - p) + 0) % 256)) 0 (m.length + 2) = m ++ [2, 32 - p] := by
          refine Eq.trans (bytL_u1 (q := m.length + 1)) ?_
          rw [bytL_u1, ← em, List.append_assoc]
          rw [show (32 - p + 0) % 256 = 32 - p by omega]
          rfl
        have B2 : buX S2 (va_up V 116 (.int (nI (m.length + 2)))) 542 80 116 (m ++ [2, 32 - p]) := ⟨by rw [va_up_self, List.length_append]; rfl, _, X2, kO_up (kO_up kg (by decide)) (Nat.mod_lt _ (by decide)), by rw [List.length_append]; show m.length + 2 ≤ 80; omega, by rw [List.length_append]; exact eG.symm⟩
        have eD : m ++ derB A = m ++ [2, 32 - p] ++ bytL (beB A) p (32 - p) := by
          unfold derB
          rw [hpz, if_neg (by omega), List.append_assoc m]
          rfl
        refine ks_sub [(0, _), (1, _), (2, .int (nI (p + 0))), (3, _)] rfl (l_drC (m := m ++ [2, 32 - p]) (p := p) (h := 0) K2.2.1 (u2.at h543 (by decide)) k3 hg3 (by omega) (by rw [List.length_append]; show m.length + 2 + 32 ≤ 80; omega) B2 (fun S3 V3 K3 B3 => hk S3 V3 (K2.trans K3) (by rw [eD]; exact B3)) (32 - p) 0 S2 _ (Nat.zero_add _) ⟨ks_up.rf _ _, K2.2.1, fun _ _ => rfl⟩ (by rw [show bytL (beB A) p 0 = [] from rfl, List.append_nil]; exact B2))
      · exact absurd hc94 (by decide)
    · exact absurd hc72 (by decide)
  · refine ks_iconst (x := nI 1) dX16_der_41 (by decide) rfl ?_
    refine ks_goto (tgt := 46) dX16_der_42 (by decide) ?_
    refine ks_istore_n dX16_der_46 (by decide) rfl ?_
    refine ks_sub [(3, _), (0, _), (1, _), (2, _)] rfl ?_
    refine ks_aload_n dX16_der_47 rfl rfl ?_
    refine ks_getf (T := TX16) (kf := 115) kx_2483 rfl in_X16 cl_X16 (by decide) hO rfl dX16_der_48 rfl ?_
    refine ks_aload_n dX16_der_51 rfl rfl ?_
    refine ks_getf (T := TX16) (kf := 116) kx_2484 rfl in_X16 cl_X16 (by decide) hO rfl dX16_der_52 rfl ?_
    refine ks_tv vf ?_
    refine ks_iconst (x := nI 2) dX16_der_55 (by decide) rfl ?_
    refine ks_bastB (i := m.length) (c := 2) e1 rfl (by omega) (by decide) (ks_by_nI _) dX16_der_56 rfl ?_
    refine ks_aload_n dX16_der_57 rfl rfl ?_
    refine ks_getf (T := TX16) (kf := 115) kx_2483 rfl in_X16 cl_X16 (by decide) ((ks_set_ne _ _ (by decide)).trans hO) rfl dX16_der_58 rfl ?_
    refine ks_aload_n dX16_der_61 rfl rfl ?_
    refine ks_getf (T := TX16) (kf := 116) kx_2484 rfl in_X16 cl_X16 (by decide) ((ks_set_ne _ _ (by decide)).trans hO) rfl dX16_der_62 rfl ?_
    refine ks_tv vf ?_
    refine ks_iconst (x := nI 1) dX16_der_65 (by decide) rfl ?_
    refine ks_addN dX16_der_66 rfl ?_
    refine ks_bipush (x := nI 32) dX16_der_67 (by decide) rfl ?_
    refine ks_iload_n dX16_der_69 rfl rfl ?_
    refine ks_subN (by omega) dX16_der_70 rfl ?_
    refine ks_iload_n dX16_der_71 rfl rfl ?_
    refine ks_if_eqN (tgt := 79) (by decide) dX16_der_72 (by decide) rfl (fun hc72 => ?_) (fun hc72 => ?_)
    · exact absurd hc72 (by decide)
    · refine ks_iconst (x := nI 1) dX16_der_75 (by decide) rfl ?_
      refine ks_goto (tgt := 80) dX16_der_76 (by decide) ?_
      refine ks_addN dX16_der_80 rfl ?_
      refine ks_i2b dX16_der_81 rfl ?_
      refine ks_bastB (i := m.length + 1) (c := ((32 - p) + 1) % 256) (ks_set_same _ _ _) rfl (by omega) (by decide) ((ks_by_i8 _).trans (ks_by_nI _)) dX16_der_82 rfl ?_
      refine ks_aload_n dX16_der_83 rfl rfl ?_
      refine ks_dup dX16_der_84 rfl rfl ?_
      refine ks_getf (T := TX16) (kf := 116) kx_2484 rfl in_X16 cl_X16 (by decide) ((ks_set_ne _ _ (by decide)).trans ((ks_set_ne _ _ (by decide)).trans hO)) rfl dX16_der_85 rfl ?_
      refine ks_tv vf ?_
      refine ks_iconst (x := nI 2) dX16_der_88 (by decide) rfl ?_
      refine ks_addN dX16_der_89 rfl ?_
      refine ks_putf (T := TX16) (kf := 116) kx_2484 rfl in_X16 tyX16_ok nmX16 cl_X16 (by decide) ((ks_set_ne _ _ (by decide)).trans ((ks_set_ne _ _ (by decide)).trans hO)) (Nat.le_of_ble_eq_true rfl) rfl rfl rfl rfl dX16_der_90 rfl ?_
      refine md_put mdp_116 ?_
      refine ks_iload_n dX16_der_93 rfl rfl ?_
      refine ks_if_eqN (tgt := 117) (by decide) dX16_der_94 (by decide) rfl (fun hc94 => ?_) (fun hc94 => ?_)
      · exact absurd hc94 (by decide)
      · refine ks_aload_n dX16_der_97 rfl rfl ?_
        refine ks_getf (T := TX16) (kf := 115) kx_2483 rfl in_X16 cl_X16 (by decide) (ks_set_same _ _ _) rfl dX16_der_98 rfl ?_
        refine ks_aload_n dX16_der_101 rfl rfl ?_
        refine ks_getf (T := TX16) (kf := 116) kx_2484 rfl in_X16 cl_X16 (by decide) (ks_set_same _ _ _) rfl dX16_der_102 rfl ?_
        refine ks_tv (va_up_self _ _ _) ?_
        refine ks_iconst (x := nI 0) dX16_der_105 (by decide) rfl ?_
        refine ks_bastB (i := m.length + 2) (c := 0) ((ks_set_ne _ _ (by decide)).trans (ks_set_same _ _ _)) rfl (by omega) (by decide) (ks_by_nI _) dX16_der_106 rfl ?_
        refine ks_aload_n dX16_der_107 rfl rfl ?_
        refine ks_dup dX16_der_108 rfl rfl ?_
        refine ks_getf (T := TX16) (kf := 116) kx_2484 rfl in_X16 cl_X16 (by decide) ((ks_set_ne _ _ (by decide)).trans (ks_set_same _ _ _)) rfl dX16_der_109 rfl ?_
        refine ks_tv (va_up_self _ _ _) ?_
        refine ks_iconst (x := nI 1) dX16_der_112 (by decide) rfl ?_
        refine ks_addN dX16_der_113 rfl ?_
        refine ks_putf (T := TX16) (kf := 116) kx_2484 rfl in_X16 tyX16_ok nmX16 cl_X16 (by decide) ((ks_set_ne _ _ (by decide)).trans (ks_set_same _ _ _)) (Nat.le_of_ble_eq_true rfl) rfl rfl rfl rfl dX16_der_114 rfl ?_
        refine md_put mdp_116 ?_
        refine ks_nm (fun S2 e2 => ?_)
        have X2 : S2.2.2 542 = some (kB 80 (va_up (va_up (va_up g m.length 2) (m.length + 1) (((32 - p) + 1) % 256)) (m.length + 2) 0)) := by rw [e2]; exact ((ks_set_ne _ _ (by decide)).trans (ks_set_same _ _ _))
        have O2 : S2.2.2 290 = some (rfE (va_up (va_up V 116 (.int (nI (m.length + 2)))) 116 (.int (nI (m.length + 2 + 1))))) := by rw [e2]; exact ks_set_same _ _ _
        have u2 : ks_up S S2 [290, 542] := by rw [e2]; exact ks_upL (ks_upL (ks_upL (ks_upL (ks_up_set (L := [290, 542]) _ _ (by decide)) (by decide)) (by decide)) (by decide)) (by decide)
        clear e2
        have hb : g3 p = beB A p := hg3 p (by omega)
        have K2 : pbK [542] [116] S S2 V (va_up (va_up V 116 (.int (nI (m.length + 2)))) 116 (.int (nI (m.length + 2 + 1)))) := ⟨u2, O2, fun k hk => (va_up_ne _ _ (fun e => hk (by rw [e]; decide))).trans (va_up_ne _ _ (fun e => hk (by rw [e]; decide)))⟩
        have eG : bytL (va_up (va_up (va_up g m.length 2) (m.length + 1) (((32 - p) + 1) % 256)) (m.length + 2) 0) 0 (m.length + 3) = m ++ [2, 33 - p, 0] := by
          refine Eq.trans (bytL_u1 (q := m.length + 2)) ?_
          rw [show m.length + 2 = m.length + 1 + 1 from rfl, bytL_u1, bytL_u1, ← em, List.append_assoc, List.append_assoc]
          rw [show (32 - p + 1) % 256 = 33 - p by omega]
          rfl
        have B2 : buX S2 (va_up (va_up V 116 (.int (nI (m.length + 2)))) 116 (.int (nI (m.length + 2 + 1)))) 542 80 116 (m ++ [2, 33 - p, 0]) := ⟨by rw [va_up_self, List.length_append]; rfl, _, X2, kO_up (kO_up (kO_up kg (by decide)) (Nat.mod_lt _ (by decide))) (by decide), by rw [List.length_append]; show m.length + 3 ≤ 80; omega, by rw [List.length_append]; exact eG.symm⟩
        have eD : m ++ derB A = m ++ [2, 33 - p, 0] ++ bytL (beB A) p (32 - p) := by
          unfold derB
          rw [hpz, if_pos (by omega), show 32 - p + 1 = 33 - p by omega, List.append_assoc m]
          rfl
        refine ks_sub [(0, _), (1, _), (2, .int (nI (p + 0))), (3, _)] rfl (l_drC (m := m ++ [2, 33 - p, 0]) (p := p) (h := 0) K2.2.1 (u2.at h543 (by decide)) k3 hg3 (by omega) (by rw [List.length_append]; show m.length + 3 + 32 ≤ 80; omega) B2 (fun S3 V3 K3 B3 => hk S3 V3 (K2.trans K3) (by rw [eD]; exact B3)) (32 - p) 0 S2 _ (Nat.zero_add _) ⟨ks_up.rf _ _, K2.2.1, fun _ _ => rfl⟩ (by rw [show bytL (beB A) p 0 = [] from rfl, List.append_nil]; exact B2))
set_option maxRecDepth 100000 in
set_option maxHeartbeats 800000 in
theorem c_md_der {l : Launch} {G : ks_G} {d : Nat} {S : ks_S} {V : Nat → Value} {m : List Nat} {A a : Nat} {g0 : Nat → Nat} (hO : S.2.2 290 = some (rfE V)) (hA : wA S a A) (ha : a < ks_B ∧ a ≠ 543) (h543 : S.2.2 543 = some (kB 32 g0)) (k0 : kO g0) (hm : m.length + 36 ≤ 80) (hB : buX S V 542 80 116 m) : ks_P l G yX16_der mX16_der (d + 1) [.ref 290, .ref a] S (fun z S' => z = none ∧ ∃ V', pbK [542, 543] [116] S S' V V' ∧ buX S' V' 542 80 116 (m ++ derB A) ∧ ∃ g, kO g ∧ S'.2.2 543 = some (kB 32 g)) := by
  refine ks_of (by decide) rfl rfl (Nat.le_of_ble_eq_true rfl) ?_
  show ks_X l G mX16_der (d + 1) 0 [(0, .ref 290), (1, .ref a)] [] S _
  refine ks_aload_n dX16_der_0 rfl rfl ?_
  refine ks_aload_n dX16_der_1 rfl rfl ?_
  refine ks_getf (T := TX16) (kf := 117) kx_2485 rfl in_X16 cl_X16 (by decide) hO rfl dX16_der_2 rfl ?_
  refine ks_iconst (x := nI 0) dX16_der_5 (by decide) rfl ?_
  refine ks_callS (n := 3) (M' := mX16_toBytes) (c_md_toBytes hA h543 k0 (i := 0) (by decide) (by decide) ha.1) kx_2758 kx_2759 kx_30 kx_2760 (by decide +kernel) rfl (by decide) (Nat.le_of_ble_eq_true rfl) rfl dX16_der_6 rfl (fun z1 S1 y1 => ?_)
  obtain ⟨rfl, u1, e1⟩ := y1
  obtain ⟨g3, eg3⟩ : ∃ z, z = ks_pt (beB A) g0 0 32 := ⟨_, rfl⟩
  rw [← eg3] at e1
  have k3 : kO g3 := by rw [eg3]; exact kO_pt (beB_b A) k0 _ _
  have hg3 : ∀ j, j < 32 → g3 j = beB A j := fun j hj => by
    have := ks_pt_in (beB A) g0 0 32 hj
    rw [Nat.zero_add] at this
    rw [eg3]
    exact this
  have o1 := u1.at hO (by decide)
  have B1 : buX S1 V 542 80 116 m := by
    obtain ⟨b1, b2, b3, b4⟩ := hB
    exact ⟨b1, b2, u1.at b3 (by decide), b4⟩
  have hz31 : fzN (beB A) 31 0 ≤ 31 := by have := fzN_b (beB A) 31 0; omega
  have loop : ∀ (u z : Nat), z + u = 31 → fzN (beB A) u z = fzN (beB A) 31 0 → ks_X l G mX16_der (d + 1) 11 [(0, .ref 290), (1, .ref a), (2, .int (nI z))] [] S1 (fun z S' => z = none ∧ ∃ V', pbK [542, 543] [116] S S' V V' ∧ buX S' V' 542 80 116 (m ++ derB A) ∧ ∃ g, kO g ∧ S'.2.2 543 = some (kB 32 g)) := by
    intro u
    induction u with
    | zero =>
      intro z hz hf
      refine ks_iload_n dX16_der_11 rfl rfl ?_
      refine ks_bipush (x := nI 31) dX16_der_12 (by decide) rfl ?_
      refine ks_icmp_geN (tgt := 32) (by omega) (by decide) dX16_der_14 (by decide) rfl (fun h1 => ?_) (fun h1 => absurd h1 (by omega))
      rw [show fzN (beB A) 0 z = z from rfl] at hf
      refine l_drM (m := m) (A := A) o1 e1 k3 hg3 (by omega) hf.symm hm B1 (fun S2 V2 K2 B2 => ⟨rfl, V2, ⟨(u1.mono (by decide)).trans (K2.1.mono (by decide)), K2.2.1, K2.2.2⟩, B2, g3, k3, K2.1.at e1 (by decide)⟩)
    | succ u ih =>
      intro z hz hf
      rw [show fzN (beB A) (u + 1) z = if beB A z = 0 then fzN (beB A) u (z + 1) else z from rfl] at hf
      refine ks_iload_n dX16_der_11 rfl rfl ?_
      refine ks_bipush (x := nI 31) dX16_der_12 (by decide) rfl ?_
      refine ks_icmp_geN (tgt := 32) (by omega) (by decide) dX16_der_14 (by decide) rfl (fun h1 => absurd h1 (by omega)) (fun h1 => ?_)
      refine ks_aload_n dX16_der_17 rfl rfl ?_
      refine ks_getf (T := TX16) (kf := 117) kx_2485 rfl in_X16 cl_X16 (by decide) o1 rfl dX16_der_18 rfl ?_
      refine ks_iload_n dX16_der_21 rfl rfl ?_
      refine ks_baldB (i := z) e1 rfl (by omega) (by decide) dX16_der_22 rfl ?_
      refine ks_if_neY (tgt := 32) (k3 _) dX16_der_23 (by decide) rfl (fun h2 => ?_) (fun h2 => ?_)
      · rw [hg3 z (by omega)] at h2
        rw [if_neg h2] at hf
        refine l_drM (m := m) (A := A) o1 e1 k3 hg3 (by omega) hf.symm hm B1 (fun S2 V2 K2 B2 => ⟨rfl, V2, ⟨(u1.mono (by decide)).trans (K2.1.mono (by decide)), K2.2.1, K2.2.2⟩, B2, g3, k3, K2.1.at e1 (by decide)⟩)
      · rw [hg3 z (by omega)] at h2
        rw [if_pos h2] at hf
        refine ks_incN (c := 1) (e := z + 1) dX16_der_26 rfl (by decide) rfl (by decide) rfl ?_
        refine ks_sub [(2, _), (0, _), (1, _)] rfl ?_
        refine ks_goto (tgt := 11) dX16_der_29 (by decide) ?_
        exact ks_sub [(0, _), (1, _), (2, _)] rfl (ih (z + 1) (by omega) hf)
  refine ks_iconst (x := nI 0) dX16_der_9 (by decide) rfl ?_
  refine ks_istore_n dX16_der_10 (by decide) rfl ?_
  refine ks_sub [(2, _), (0, _), (1, _)] rfl ?_
  exact ks_sub [(0, _), (1, _), (2, .int (nI 0))] rfl (loop 31 0 (by decide) rfl)

/-! THE JUDGE: digests, keys -/
theorem h160_congr {m m2 : Nat → Nat} {n : Nat} (h : ∀ k, k < n → m k = m2 k) : h160_ m n = h160_ m2 n := by
  unfold h160_
  rw [sha_congr h]
theorem kO_h160 (m : Nat → Nat) (n : Nat) : kO (h160_ m n) := kO_ripe _ _
theorem keyL_len (wh : Bool) (x y : Nat) : (keyL wh x y).length = if wh = true then 65 else 33 := by
  unfold keyL
  cases wh <;> simp [bytL_len]
set_option maxRecDepth 100000 in
set_option maxHeartbeats 800000 in
theorem c_jd_digest0 {l : Launch} {G : ks_G} {d : Nat} {S : ks_S} {dc dp : Nat} {dt : Int64} {rs : Int32} (h0 : S.2.2 0 = some (jdO dc dp dt rs)) {T : List Nat} (hT : bfS S 1 2 1600 (some T)) (hh : hsO S) (hK : ks_stOK S) : ks_P l G yX11_digest mX11_digest (d + 5) [.ref 0, .int (nI 0)] S (fun z S' => z = some (.int (nI 32)) ∧ ks_up S S' [9, 8, 10, 11, 12, 2, 1] ∧ hsO S' ∧ bfS S' 1 2 1600 (some (bytL (sha_ (mg T) T.length) 0 32))) := by
  have h0 : S.2.2 0 = some (.inr (14, [.ref 1, .ref 3, .ref 5, .ref 7, .ref 14, .ref 20, .ref 27, .ref 41, .ref 52, .ref 53, .ref 54, .ref 55, .int (nI dc), .int (nI dp), .long dt, .int rs])) := h0
  obtain ⟨len, g, kg, hl16, e2, e1, ⟨hl, hg⟩⟩ := id hT
  have O7 := hh.1
  refine ks_of (by decide) rfl rfl (Nat.le_of_ble_eq_true rfl) ?_
  show ks_X l G mX11_digest (d + 5) 0 [(0, .ref 0), (1, .int (nI 0))] [] S _
  refine ks_iload_n dX11_digest_0 rfl rfl ?_
  refine ks_if_ltN (tgt := 9) (by decide) dX11_digest_1 (by decide) rfl ?_
  refine ks_iload_n dX11_digest_4 rfl rfl ?_
  refine ks_iconst (x := nI 3) dX11_digest_5 (by decide) rfl ?_
  refine ks_icmp_leN (tgt := 17) (by decide) (by decide) dX11_digest_6 (by decide) rfl (fun _ => ?_) (fun h => absurd h (by decide))
  refine ks_aload_n dX11_digest_17 rfl rfl ?_
  refine ks_getf (T := TX11) (kf := 0) kx_1053 rfl in_X11 cl_X11 (by decide) h0 rfl dX11_digest_18 rfl ?_
  refine ks_getf (T := TX1) (kf := 0) kx_54 rfl in_X1 cl_X1 (by decide) e1 rfl dX11_digest_21 rfl ?_
  refine ks_astore_n dX11_digest_24 (by decide) rfl ?_
  refine ks_sub [(2, _), (0, _), (1, _)] rfl ?_
  refine ks_iload_n dX11_digest_25 rfl rfl ?_
  refine ks_if_neN (tgt := 50) (by decide) dX11_digest_26 (by decide) rfl (fun h => absurd h (by decide)) (fun _ => ?_)
  refine ks_aload_n dX11_digest_29 rfl rfl ?_
  refine ks_getf (T := TX11) (kf := 3) kx_1056 rfl in_X11 cl_X11 (by decide) h0 rfl dX11_digest_30 rfl ?_
  refine ks_aload_n dX11_digest_33 rfl rfl ?_
  refine ks_iconst (x := nI 0) dX11_digest_34 (by decide) rfl ?_
  refine ks_aload_n dX11_digest_35 rfl rfl ?_
  refine ks_getf (T := TX11) (kf := 0) kx_1053 rfl in_X11 cl_X11 (by decide) h0 rfl dX11_digest_36 rfl ?_
  refine ks_getf (T := TX1) (kf := 1) kx_59 rfl in_X1 cl_X1 (by decide) e1 rfl dX11_digest_39 rfl ?_
  refine ks_aload_n dX11_digest_42 rfl rfl ?_
  refine ks_iconst (x := nI 0) dX11_digest_43 (by decide) rfl ?_
  refine ks_callV (n := 5) (M' := mX6_sha) (c_shaH (d := d + 1) hh hs_neO (i := 0) (n := len) (oa := 0) e2 kg (by omega) (by decide) e2 kg (by decide) (by decide) hK (by decide) (by decide)) O7 cl_X6 rfl kx_1250 kx_881 kx_882 kx_3 kx_883 (by decide +kernel) rfl (by decide) (Nat.le_of_ble_eq_true rfl) rfl dX11_digest_44 rfl (fun z3 T3 y3 => ?_)
  obtain ⟨rfl, w3, hh3, e2b⟩ := y3
  have a0 := w3.at h0 (by decide)
  have a1 := w3.at e1 (by decide)
  refine ks_goto (tgt := 120) dX11_digest_47 (by decide) ?_
  refine ks_aload_n dX11_digest_120 rfl rfl ?_
  refine ks_getf (T := TX11) (kf := 0) kx_1053 rfl in_X11 cl_X11 (by decide) a0 rfl dX11_digest_121 rfl ?_
  refine ks_iload_n dX11_digest_124 rfl rfl ?_
  refine ks_if_eqN (tgt := 133) (by decide) dX11_digest_125 (by decide) rfl (fun _ => ?_) (fun h => absurd h (by decide))
  refine ks_bipush (x := nI 32) dX11_digest_133 (by decide) rfl ?_
  refine ks_goto (tgt := 140) dX11_digest_135 (by decide) ?_
  refine ks_putf (T := TX1) (kf := 1) kx_59 rfl in_X1 tyX1_ok nmX1 cl_X1 (by decide) a1 (Nat.le_of_ble_eq_true rfl) rfl rfl rfl rfl dX11_digest_140 rfl ?_
  refine ks_aload_n dX11_digest_143 rfl rfl ?_
  refine ks_getf (T := TX11) (kf := 0) kx_1053 rfl in_X11 cl_X11 (by decide) ((ks_set_ne _ _ (by decide)).trans a0) rfl dX11_digest_144 rfl ?_
  refine ks_getf (T := TX1) (kf := 1) kx_59 rfl in_X1 cl_X1 (by decide) (ks_set_same _ _ _) rfl dX11_digest_147 rfl ?_
  refine ks_iret rfl dX11_digest_150 ?_
  have et : ∀ j, sha_ (fun k => g (0 + k)) len j = sha_ (mg T) T.length j := fun j => by
    rw [hl]
    exact congrFun (sha_congr (fun k hk => by rw [Nat.zero_add]; exact hg k hk)) j
  refine ⟨rfl, (w3.mono (by decide)).trans (ks_up_set _ _ (by decide)), hh3.up (ks_up_set T3 (a := 1) (L := [1]) _ List.mem_cons_self) (by decide), 32, _, kO_pt (kO_sha _ _) kg 0 32, by decide, (ks_set_ne _ _ (by decide)).trans e2b, ks_set_same _ _ _, bytL_len _ _ _, fun j hj => ?_⟩
  have e5 := ks_pt_in (sha_ (fun k => g (0 + k)) len) g 0 32 hj
  rw [Nat.zero_add] at e5
  rw [e5, et]
  simp [bytL, List.getD, hj]
set_option maxRecDepth 100000 in
set_option maxHeartbeats 800000 in
theorem c_jd_digest1 {l : Launch} {G : ks_G} {d : Nat} {S : ks_S} {dc dp : Nat} {dt : Int64} {rs : Int32} (h0 : S.2.2 0 = some (jdO dc dp dt rs)) {T : List Nat} (hT : bfS S 1 2 1600 (some T)) (hh : hsO S) (hK : ks_stOK S) : ks_P l G yX11_digest mX11_digest (d + 5) [.ref 0, .int (nI 1)] S (fun z S' => z = some (.int (nI 20)) ∧ ks_up S S' [9, 8, 10, 11, 12, 2, 1] ∧ hsO S' ∧ bfS S' 1 2 1600 (some (bytL (ripe_ (mg T) T.length) 0 20))) := by
  have h0 : S.2.2 0 = some (.inr (14, [.ref 1, .ref 3, .ref 5, .ref 7, .ref 14, .ref 20, .ref 27, .ref 41, .ref 52, .ref 53, .ref 54, .ref 55, .int (nI dc), .int (nI dp), .long dt, .int rs])) := h0
  obtain ⟨len, g, kg, hl16, e2, e1, ⟨hl, hg⟩⟩ := id hT
  have O7 := hh.1
  refine ks_of (by decide) rfl rfl (Nat.le_of_ble_eq_true rfl) ?_
  show ks_X l G mX11_digest (d + 5) 0 [(0, .ref 0), (1, .int (nI 1))] [] S _
  refine ks_iload_n dX11_digest_0 rfl rfl ?_
  refine ks_if_ltN (tgt := 9) (by decide) dX11_digest_1 (by decide) rfl ?_
  refine ks_iload_n dX11_digest_4 rfl rfl ?_
  refine ks_iconst (x := nI 3) dX11_digest_5 (by decide) rfl ?_
  refine ks_icmp_leN (tgt := 17) (by decide) (by decide) dX11_digest_6 (by decide) rfl (fun _ => ?_) (fun h => absurd h (by decide))
  refine ks_aload_n dX11_digest_17 rfl rfl ?_
  refine ks_getf (T := TX11) (kf := 0) kx_1053 rfl in_X11 cl_X11 (by decide) h0 rfl dX11_digest_18 rfl ?_
  refine ks_getf (T := TX1) (kf := 0) kx_54 rfl in_X1 cl_X1 (by decide) e1 rfl dX11_digest_21 rfl ?_
  refine ks_astore_n dX11_digest_24 (by decide) rfl ?_
  refine ks_sub [(2, _), (0, _), (1, _)] rfl ?_
  refine ks_iload_n dX11_digest_25 rfl rfl ?_
  refine ks_if_neN (tgt := 50) (by decide) dX11_digest_26 (by decide) rfl (fun _ => ?_) (fun h => absurd h (by decide))
  refine ks_iload_n dX11_digest_50 rfl rfl ?_
  refine ks_iconst (x := nI 1) dX11_digest_51 (by decide) rfl ?_
  refine ks_icmp_neN (tgt := 76) (by decide) (by decide) dX11_digest_52 (by decide) rfl (fun h => absurd h (by decide)) (fun _ => ?_)
  refine ks_aload_n dX11_digest_55 rfl rfl ?_
  refine ks_getf (T := TX11) (kf := 3) kx_1056 rfl in_X11 cl_X11 (by decide) h0 rfl dX11_digest_56 rfl ?_
  refine ks_aload_n dX11_digest_59 rfl rfl ?_
  refine ks_iconst (x := nI 0) dX11_digest_60 (by decide) rfl ?_
  refine ks_aload_n dX11_digest_61 rfl rfl ?_
  refine ks_getf (T := TX11) (kf := 0) kx_1053 rfl in_X11 cl_X11 (by decide) h0 rfl dX11_digest_62 rfl ?_
  refine ks_getf (T := TX1) (kf := 1) kx_59 rfl in_X1 cl_X1 (by decide) e1 rfl dX11_digest_65 rfl ?_
  refine ks_aload_n dX11_digest_68 rfl rfl ?_
  refine ks_iconst (x := nI 0) dX11_digest_69 (by decide) rfl ?_
  refine ks_callV (n := 5) (M' := mX6_ripe) (c_ripeH (d := d + 1) hh hs_neO (i := 0) (n := len) (oa := 0) e2 kg (by omega) (by decide) e2 kg (by decide) (by decide) hK (by decide) (by decide)) O7 cl_X6 rfl kx_1251 kx_1223 kx_1224 kx_3 kx_1225 (by decide +kernel) rfl (by decide) (Nat.le_of_ble_eq_true rfl) rfl dX11_digest_70 rfl (fun z3 T3 y3 => ?_)
  obtain ⟨rfl, w3, hh3, e2b⟩ := y3
  have a0 := w3.at h0 (by decide)
  have a1 := w3.at e1 (by decide)
  refine ks_goto (tgt := 120) dX11_digest_73 (by decide) ?_
  refine ks_aload_n dX11_digest_120 rfl rfl ?_
  refine ks_getf (T := TX11) (kf := 0) kx_1053 rfl in_X11 cl_X11 (by decide) a0 rfl dX11_digest_121 rfl ?_
  refine ks_iload_n dX11_digest_124 rfl rfl ?_
  refine ks_if_eqN (tgt := 133) (by decide) dX11_digest_125 (by decide) rfl (fun h => absurd h (by decide)) (fun _ => ?_)
  refine ks_iload_n dX11_digest_128 rfl rfl ?_
  refine ks_iconst (x := nI 3) dX11_digest_129 (by decide) rfl ?_
  refine ks_icmp_neN (tgt := 138) (by decide) (by decide) dX11_digest_130 (by decide) rfl (fun _ => ?_) (fun h => absurd h (by decide))
  refine ks_bipush (x := nI 20) dX11_digest_138 (by decide) rfl ?_
  refine ks_putf (T := TX1) (kf := 1) kx_59 rfl in_X1 tyX1_ok nmX1 cl_X1 (by decide) a1 (Nat.le_of_ble_eq_true rfl) rfl rfl rfl rfl dX11_digest_140 rfl ?_
  refine ks_aload_n dX11_digest_143 rfl rfl ?_
  refine ks_getf (T := TX11) (kf := 0) kx_1053 rfl in_X11 cl_X11 (by decide) ((ks_set_ne _ _ (by decide)).trans a0) rfl dX11_digest_144 rfl ?_
  refine ks_getf (T := TX1) (kf := 1) kx_59 rfl in_X1 cl_X1 (by decide) (ks_set_same _ _ _) rfl dX11_digest_147 rfl ?_
  refine ks_iret rfl dX11_digest_150 ?_
  have et : ∀ j, ripe_ (fun k => g (0 + k)) len j = ripe_ (mg T) T.length j := fun j => by
    rw [hl]
    exact congrFun (ripe_congr (fun k hk => by rw [Nat.zero_add]; exact hg k hk)) j
  refine ⟨rfl, (w3.mono (by decide)).trans (ks_up_set _ _ (by decide)), hh3.up (ks_up_set T3 (a := 1) (L := [1]) _ List.mem_cons_self) (by decide), 20, _, kO_pt (kO_ripe _ _) kg 0 20, by decide, (ks_set_ne _ _ (by decide)).trans e2b, ks_set_same _ _ _, bytL_len _ _ _, fun j hj => ?_⟩
  have e5 := ks_pt_in (ripe_ (fun k => g (0 + k)) len) g 0 20 hj
  rw [Nat.zero_add] at e5
  rw [e5, et]
  simp [bytL, List.getD, hj]
set_option maxRecDepth 100000 in
set_option maxHeartbeats 800000 in
theorem c_jd_digest2 {l : Launch} {G : ks_G} {d : Nat} {S : ks_S} {dc dp : Nat} {dt : Int64} {rs : Int32} (h0 : S.2.2 0 = some (jdO dc dp dt rs)) {T : List Nat} (hT : bfS S 1 2 1600 (some T)) (hh : hsO S) (hK : ks_stOK S) : ks_P l G yX11_digest mX11_digest (d + 5) [.ref 0, .int (nI 2)] S (fun z S' => z = some (.int (nI 20)) ∧ ks_up S S' [9, 8, 10, 11, 12, 2, 1] ∧ hsO S' ∧ bfS S' 1 2 1600 (some (bytL (h160_ (mg T) T.length) 0 20))) := by
  have h0 : S.2.2 0 = some (.inr (14, [.ref 1, .ref 3, .ref 5, .ref 7, .ref 14, .ref 20, .ref 27, .ref 41, .ref 52, .ref 53, .ref 54, .ref 55, .int (nI dc), .int (nI dp), .long dt, .int rs])) := h0
  obtain ⟨len, g, kg, hl16, e2, e1, ⟨hl, hg⟩⟩ := id hT
  have O7 := hh.1
  refine ks_of (by decide) rfl rfl (Nat.le_of_ble_eq_true rfl) ?_
  show ks_X l G mX11_digest (d + 5) 0 [(0, .ref 0), (1, .int (nI 2))] [] S _
  refine ks_iload_n dX11_digest_0 rfl rfl ?_
  refine ks_if_ltN (tgt := 9) (by decide) dX11_digest_1 (by decide) rfl ?_
  refine ks_iload_n dX11_digest_4 rfl rfl ?_
  refine ks_iconst (x := nI 3) dX11_digest_5 (by decide) rfl ?_
  refine ks_icmp_leN (tgt := 17) (by decide) (by decide) dX11_digest_6 (by decide) rfl (fun _ => ?_) (fun h => absurd h (by decide))
  refine ks_aload_n dX11_digest_17 rfl rfl ?_
  refine ks_getf (T := TX11) (kf := 0) kx_1053 rfl in_X11 cl_X11 (by decide) h0 rfl dX11_digest_18 rfl ?_
  refine ks_getf (T := TX1) (kf := 0) kx_54 rfl in_X1 cl_X1 (by decide) e1 rfl dX11_digest_21 rfl ?_
  refine ks_astore_n dX11_digest_24 (by decide) rfl ?_
  refine ks_sub [(2, _), (0, _), (1, _)] rfl ?_
  refine ks_iload_n dX11_digest_25 rfl rfl ?_
  refine ks_if_neN (tgt := 50) (by decide) dX11_digest_26 (by decide) rfl (fun _ => ?_) (fun h => absurd h (by decide))
  refine ks_iload_n dX11_digest_50 rfl rfl ?_
  refine ks_iconst (x := nI 1) dX11_digest_51 (by decide) rfl ?_
  refine ks_icmp_neN (tgt := 76) (by decide) (by decide) dX11_digest_52 (by decide) rfl (fun _ => ?_) (fun h => absurd h (by decide))
  refine ks_iload_n dX11_digest_76 rfl rfl ?_
  refine ks_iconst (x := nI 2) dX11_digest_77 (by decide) rfl ?_
  refine ks_icmp_neN (tgt := 102) (by decide) (by decide) dX11_digest_78 (by decide) rfl (fun h => absurd h (by decide)) (fun _ => ?_)
  refine ks_aload_n dX11_digest_81 rfl rfl ?_
  refine ks_getf (T := TX11) (kf := 3) kx_1056 rfl in_X11 cl_X11 (by decide) h0 rfl dX11_digest_82 rfl ?_
  refine ks_aload_n dX11_digest_85 rfl rfl ?_
  refine ks_iconst (x := nI 0) dX11_digest_86 (by decide) rfl ?_
  refine ks_aload_n dX11_digest_87 rfl rfl ?_
  refine ks_getf (T := TX11) (kf := 0) kx_1053 rfl in_X11 cl_X11 (by decide) h0 rfl dX11_digest_88 rfl ?_
  refine ks_getf (T := TX1) (kf := 1) kx_59 rfl in_X1 cl_X1 (by decide) e1 rfl dX11_digest_91 rfl ?_
  refine ks_aload_n dX11_digest_94 rfl rfl ?_
  refine ks_iconst (x := nI 0) dX11_digest_95 (by decide) rfl ?_
  refine ks_callV (n := 5) (M' := mX6_hash160) (c_hash160 (d := d) hh hs_neO (i := 0) (n := len) (oa := 0) e2 kg (by omega) (by decide) e2 kg (by decide) (by decide) hK (by decide) (by decide) (by decide)) O7 cl_X6 rfl kx_1218 kx_1219 kx_1220 kx_3 kx_1221 (by decide +kernel) rfl (by decide) (Nat.le_of_ble_eq_true rfl) rfl dX11_digest_96 rfl (fun z3 T3 y3 => ?_)
  obtain ⟨rfl, w3, hh3, e2b⟩ := y3
  have a0 := w3.at h0 (by decide)
  have a1 := w3.at e1 (by decide)
  refine ks_goto (tgt := 120) dX11_digest_99 (by decide) ?_
  refine ks_aload_n dX11_digest_120 rfl rfl ?_
  refine ks_getf (T := TX11) (kf := 0) kx_1053 rfl in_X11 cl_X11 (by decide) a0 rfl dX11_digest_121 rfl ?_
  refine ks_iload_n dX11_digest_124 rfl rfl ?_
  refine ks_if_eqN (tgt := 133) (by decide) dX11_digest_125 (by decide) rfl (fun h => absurd h (by decide)) (fun _ => ?_)
  refine ks_iload_n dX11_digest_128 rfl rfl ?_
  refine ks_iconst (x := nI 3) dX11_digest_129 (by decide) rfl ?_
  refine ks_icmp_neN (tgt := 138) (by decide) (by decide) dX11_digest_130 (by decide) rfl (fun _ => ?_) (fun h => absurd h (by decide))
  refine ks_bipush (x := nI 20) dX11_digest_138 (by decide) rfl ?_
  refine ks_putf (T := TX1) (kf := 1) kx_59 rfl in_X1 tyX1_ok nmX1 cl_X1 (by decide) a1 (Nat.le_of_ble_eq_true rfl) rfl rfl rfl rfl dX11_digest_140 rfl ?_
  refine ks_aload_n dX11_digest_143 rfl rfl ?_
  refine ks_getf (T := TX11) (kf := 0) kx_1053 rfl in_X11 cl_X11 (by decide) ((ks_set_ne _ _ (by decide)).trans a0) rfl dX11_digest_144 rfl ?_
  refine ks_getf (T := TX1) (kf := 1) kx_59 rfl in_X1 cl_X1 (by decide) (ks_set_same _ _ _) rfl dX11_digest_147 rfl ?_
  refine ks_iret rfl dX11_digest_150 ?_
  have et : ∀ j, h160_ (fun k => g (0 + k)) len j = h160_ (mg T) T.length j := fun j => by
    rw [hl]
    exact congrFun (h160_congr (fun k hk => by rw [Nat.zero_add]; exact hg k hk)) j
  refine ⟨rfl, (w3.mono (by decide)).trans (ks_up_set _ _ (by decide)), hh3.up (ks_up_set T3 (a := 1) (L := [1]) _ List.mem_cons_self) (by decide), 20, _, kO_pt (kO_h160 _ _) kg 0 20, by decide, (ks_set_ne _ _ (by decide)).trans e2b, ks_set_same _ _ _, bytL_len _ _ _, fun j hj => ?_⟩
  have e5 := ks_pt_in (h160_ (fun k => g (0 + k)) len) g 0 20 hj
  rw [Nat.zero_add] at e5
  rw [e5, et]
  simp [bytL, List.getD, hj]
set_option maxRecDepth 100000 in
set_option maxHeartbeats 800000 in
theorem c_jd_digest3 {l : Launch} {G : ks_G} {d : Nat} {S : ks_S} {dc dp : Nat} {dt : Int64} {rs : Int32} (h0 : S.2.2 0 = some (jdO dc dp dt rs)) {T : List Nat} (hT : bfS S 1 2 1600 (some T)) (hh : hsO S) (hK : ks_stOK S) : ks_P l G yX11_digest mX11_digest (d + 5) [.ref 0, .int (nI 3)] S (fun z S' => z = some (.int (nI 32)) ∧ ks_up S S' [9, 8, 10, 11, 12, 2, 1] ∧ hsO S' ∧ bfS S' 1 2 1600 (some (bytL (twice_ (mg T) T.length) 0 32))) := by
  have h0 : S.2.2 0 = some (.inr (14, [.ref 1, .ref 3, .ref 5, .ref 7, .ref 14, .ref 20, .ref 27, .ref 41, .ref 52, .ref 53, .ref 54, .ref 55, .int (nI dc), .int (nI dp), .long dt, .int rs])) := h0
  obtain ⟨len, g, kg, hl16, e2, e1, ⟨hl, hg⟩⟩ := id hT
  have O7 := hh.1
  refine ks_of (by decide) rfl rfl (Nat.le_of_ble_eq_true rfl) ?_
  show ks_X l G mX11_digest (d + 5) 0 [(0, .ref 0), (1, .int (nI 3))] [] S _
  refine ks_iload_n dX11_digest_0 rfl rfl ?_
  refine ks_if_ltN (tgt := 9) (by decide) dX11_digest_1 (by decide) rfl ?_
  refine ks_iload_n dX11_digest_4 rfl rfl ?_
  refine ks_iconst (x := nI 3) dX11_digest_5 (by decide) rfl ?_
  refine ks_icmp_leN (tgt := 17) (by decide) (by decide) dX11_digest_6 (by decide) rfl (fun _ => ?_) (fun h => absurd h (by decide))
  refine ks_aload_n dX11_digest_17 rfl rfl ?_
  refine ks_getf (T := TX11) (kf := 0) kx_1053 rfl in_X11 cl_X11 (by decide) h0 rfl dX11_digest_18 rfl ?_
  refine ks_getf (T := TX1) (kf := 0) kx_54 rfl in_X1 cl_X1 (by decide) e1 rfl dX11_digest_21 rfl ?_
  refine ks_astore_n dX11_digest_24 (by decide) rfl ?_
  refine ks_sub [(2, _), (0, _), (1, _)] rfl ?_
  refine ks_iload_n dX11_digest_25 rfl rfl ?_
  refine ks_if_neN (tgt := 50) (by decide) dX11_digest_26 (by decide) rfl (fun _ => ?_) (fun h => absurd h (by decide))
  refine ks_iload_n dX11_digest_50 rfl rfl ?_
  refine ks_iconst (x := nI 1) dX11_digest_51 (by decide) rfl ?_
  refine ks_icmp_neN (tgt := 76) (by decide) (by decide) dX11_digest_52 (by decide) rfl (fun _ => ?_) (fun h => absurd h (by decide))
  refine ks_iload_n dX11_digest_76 rfl rfl ?_
  refine ks_iconst (x := nI 2) dX11_digest_77 (by decide) rfl ?_
  refine ks_icmp_neN (tgt := 102) (by decide) (by decide) dX11_digest_78 (by decide) rfl (fun _ => ?_) (fun h => absurd h (by decide))
  refine ks_aload_n dX11_digest_102 rfl rfl ?_
  refine ks_getf (T := TX11) (kf := 3) kx_1056 rfl in_X11 cl_X11 (by decide) h0 rfl dX11_digest_103 rfl ?_
  refine ks_aload_n dX11_digest_106 rfl rfl ?_
  refine ks_iconst (x := nI 0) dX11_digest_107 (by decide) rfl ?_
  refine ks_aload_n dX11_digest_108 rfl rfl ?_
  refine ks_getf (T := TX11) (kf := 0) kx_1053 rfl in_X11 cl_X11 (by decide) h0 rfl dX11_digest_109 rfl ?_
  refine ks_getf (T := TX1) (kf := 1) kx_59 rfl in_X1 cl_X1 (by decide) e1 rfl dX11_digest_112 rfl ?_
  refine ks_aload_n dX11_digest_115 rfl rfl ?_
  refine ks_iconst (x := nI 0) dX11_digest_116 (by decide) rfl ?_
  refine ks_callV (n := 5) (M' := mX6_twice) (c_twice (d := d) hh hs_neO (i := 0) (n := len) (oa := 0) e2 kg (by omega) (by decide) e2 kg (by decide) (by decide) hK (by decide) (by decide) (by decide)) O7 cl_X6 rfl kx_876 kx_877 kx_878 kx_3 kx_879 (by decide +kernel) rfl (by decide) (Nat.le_of_ble_eq_true rfl) rfl dX11_digest_117 rfl (fun z3 T3 y3 => ?_)
  obtain ⟨rfl, w3, hh3, e2b⟩ := y3
  have a0 := w3.at h0 (by decide)
  have a1 := w3.at e1 (by decide)
  refine ks_aload_n dX11_digest_120 rfl rfl ?_
  refine ks_getf (T := TX11) (kf := 0) kx_1053 rfl in_X11 cl_X11 (by decide) a0 rfl dX11_digest_121 rfl ?_
  refine ks_iload_n dX11_digest_124 rfl rfl ?_
  refine ks_if_eqN (tgt := 133) (by decide) dX11_digest_125 (by decide) rfl (fun h => absurd h (by decide)) (fun _ => ?_)
  refine ks_iload_n dX11_digest_128 rfl rfl ?_
  refine ks_iconst (x := nI 3) dX11_digest_129 (by decide) rfl ?_
  refine ks_icmp_neN (tgt := 138) (by decide) (by decide) dX11_digest_130 (by decide) rfl (fun h => absurd h (by decide)) (fun _ => ?_)
  refine ks_bipush (x := nI 32) dX11_digest_133 (by decide) rfl ?_
  refine ks_goto (tgt := 140) dX11_digest_135 (by decide) ?_
  refine ks_putf (T := TX1) (kf := 1) kx_59 rfl in_X1 tyX1_ok nmX1 cl_X1 (by decide) a1 (Nat.le_of_ble_eq_true rfl) rfl rfl rfl rfl dX11_digest_140 rfl ?_
  refine ks_aload_n dX11_digest_143 rfl rfl ?_
  refine ks_getf (T := TX11) (kf := 0) kx_1053 rfl in_X11 cl_X11 (by decide) ((ks_set_ne _ _ (by decide)).trans a0) rfl dX11_digest_144 rfl ?_
  refine ks_getf (T := TX1) (kf := 1) kx_59 rfl in_X1 cl_X1 (by decide) (ks_set_same _ _ _) rfl dX11_digest_147 rfl ?_
  refine ks_iret rfl dX11_digest_150 ?_
  have et : ∀ j, twice_ (fun k => g (0 + k)) len j = twice_ (mg T) T.length j := fun j => by
    rw [hl]
    exact congrFun (twice_congr (fun k hk => by rw [Nat.zero_add]; exact hg k hk)) j
  refine ⟨rfl, (w3.mono (by decide)).trans (ks_up_set _ _ (by decide)), hh3.up (ks_up_set T3 (a := 1) (L := [1]) _ List.mem_cons_self) (by decide), 32, _, kO_pt (kO_twice _ _) kg 0 32, by decide, (ks_set_ne _ _ (by decide)).trans e2b, ks_set_same _ _ _, bytL_len _ _ _, fun j hj => ?_⟩
  have e5 := ks_pt_in (twice_ (fun k => g (0 + k)) len) g 0 32 hj
  rw [Nat.zero_add] at e5
  rw [e5, et]
  simp [bytL, List.getD, hj]

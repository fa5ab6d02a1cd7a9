/-! THE JUDGE: calls that throw -/
set_option maxRecDepth 100000 in
set_option maxHeartbeats 800000 in
theorem t_feed {l : Launch} {G : ks_G} {d : Nat} {S : ks_S} (htr : l.stackTraces = false) (hSB : S.1 < ks_B) {dc dp : Nat} {dt : Int64} {rs : Int32} (h0 : S.2.2 0 = some (jdO dc dp dt rs)) {T : List Nat} (hT : bfS S 1 2 1600 (some T)) {x1 x2 x3 x4 x5 : Int32} (hf : 1600 < T.length + 20) : kt_P l G yX11_feed mX11_feed (d + 9) [.ref 0, .int x1, .int x2, .int x3, .int x4, .int x5] S (fun z S' => z = some (.int (nI 0)) ∧ S' = ks_one S) := by
  have h0 : S.2.2 0 = some (.inr (14, [.ref 1, .ref 3, .ref 5, .ref 7, .ref 14, .ref 20, .ref 27, .ref 41, .ref 52, .ref 53, .ref 54, .ref 55, .int (nI dc), .int (nI dp), .long dt, .int rs])) := h0
  obtain ⟨len, g, kg, hl16, e2, e1, ⟨hl, hg⟩⟩ := id hT
  refine kt_of htr (by decide) rfl rfl (Nat.le_of_ble_eq_true rfl) ?_
  show ks_Y l G mX11_feed (d + 9) 0 [(0, .ref 0), (1, .int x1), (2, .int x2), (3, .int x3), (4, .int x4), (5, .int x5)] [] S _
  refine kt_aload_n dX11_feed_0 rfl rfl ?_
  refine kt_getf (T := TX11) (kf := 0) kx_1053 rfl in_X11 cl_X11 (by decide) h0 rfl dX11_feed_1 rfl ?_
  refine kt_getf (T := TX1) (kf := 1) kx_59 rfl in_X1 cl_X1 (by decide) e1 rfl dX11_feed_4 rfl ?_
  refine kt_bipush (x := nI 20) dX11_feed_7 (by decide) rfl ?_
  refine kt_addN dX11_feed_9 rfl ?_
  refine kt_sipush (x := nI 1600) dX11_feed_10 (by decide) rfl ?_
  refine kt_icmp_leN (tgt := 24) (by omega) (by decide) dX11_feed_13 (by decide) rfl (fun hc13 => ?_) (fun hc13 => ?_)
  · exact absurd hc13 (by omega)
  · exact kt_throw (k := 0) (names := ["java/lang/RuntimeException", "java/lang/Exception"]) rfl (by decide +kernel) (by decide +kernel) tw_cl0 tw_in0 tw_at0 (by decide) (Nat.le_of_ble_eq_true rfl) hSB dX11_feed_16 dX11_feed_19 dX11_feed_20 dX11_feed_23 ⟨rfl, rfl⟩
set_option maxRecDepth 100000 in
set_option maxHeartbeats 800000 in
theorem t_end {l : Launch} {G : ks_G} {d : Nat} {S : ks_S} (htr : l.stackTraces = false) (hSB : S.1 < ks_B) {dc dp : Nat} {dt : Int64} {rs : Int32} (h0 : S.2.2 0 = some (jdO dc dp dt rs)) {T : List Nat} (hT : bfS S 1 2 1600 (some T)) {x : Int32} (hx : ¬ (¬ x < 0 ∧ x ≤ nI T.length)) : kt_P l G yX11_end mX11_end (d + 9) [.ref 0, .int x] S (fun z S' => z = some (.int (nI 1)) ∧ S' = ks_one S) := by
  have h0 : S.2.2 0 = some (.inr (14, [.ref 1, .ref 3, .ref 5, .ref 7, .ref 14, .ref 20, .ref 27, .ref 41, .ref 52, .ref 53, .ref 54, .ref 55, .int (nI dc), .int (nI dp), .long dt, .int rs])) := h0
  obtain ⟨len, g, kg, hl16, e2, e1, ⟨hl, hg⟩⟩ := id hT
  refine kt_of htr (by decide) rfl rfl (Nat.le_of_ble_eq_true rfl) ?_
  show ks_Y l G mX11_end (d + 9) 0 [(0, .ref 0), (1, .int x)] [] S _
  refine kt_iload_n dX11_end_0 rfl rfl ?_
  refine kt_if_lt (tgt := 15) dX11_end_1 (by decide) rfl (fun hc1 => ?_) (fun hc1 => ?_)
  · exact kt_throw (k := 1) (names := ["java/lang/RuntimeException", "java/lang/Exception"]) rfl (by decide +kernel) (by decide +kernel) tw_cl1 tw_in1 tw_at1 (by decide) (Nat.le_of_ble_eq_true rfl) hSB dX11_end_15 dX11_end_18 dX11_end_19 dX11_end_22 ⟨rfl, rfl⟩
  · refine kt_iload_n dX11_end_4 rfl rfl ?_
    refine kt_aload_n dX11_end_5 rfl rfl ?_
    refine kt_getf (T := TX11) (kf := 0) kx_1053 rfl in_X11 cl_X11 (by decide) h0 rfl dX11_end_6 rfl ?_
    refine kt_getf (T := TX1) (kf := 1) kx_59 rfl in_X1 cl_X1 (by decide) e1 rfl dX11_end_9 rfl ?_
    refine kt_icmp_le (tgt := 23) dX11_end_12 (by decide) rfl (fun hc12 => ?_) (fun hc12 => ?_)
    · exact absurd ⟨hc1, by rw [hl]; exact hc12⟩ hx
    · exact kt_throw (k := 1) (names := ["java/lang/RuntimeException", "java/lang/Exception"]) rfl (by decide +kernel) (by decide +kernel) tw_cl1 tw_in1 tw_at1 (by decide) (Nat.le_of_ble_eq_true rfl) hSB dX11_end_15 dX11_end_18 dX11_end_19 dX11_end_22 ⟨rfl, rfl⟩
set_option maxRecDepth 100000 in
set_option maxHeartbeats 800000 in
theorem t_patch {l : Launch} {G : ks_G} {d : Nat} {S : ks_S} (htr : l.stackTraces = false) (hSB : S.1 < ks_B) {dc dp : Nat} {dt : Int64} {rs : Int32} (h0 : S.2.2 0 = some (jdO dc dp dt rs)) {T : List Nat} (hT : bfS S 1 2 1600 (some T)) {x v : Int32} (hx : ¬ (¬ x < 0 ∧ x < nI T.length)) : kt_P l G yX11_patch mX11_patch (d + 9) [.ref 0, .int x, .int v] S (fun z S' => z = some (.int (nI 1)) ∧ S' = ks_one S) := by
  have h0 : S.2.2 0 = some (.inr (14, [.ref 1, .ref 3, .ref 5, .ref 7, .ref 14, .ref 20, .ref 27, .ref 41, .ref 52, .ref 53, .ref 54, .ref 55, .int (nI dc), .int (nI dp), .long dt, .int rs])) := h0
  obtain ⟨len, g, kg, hl16, e2, e1, ⟨hl, hg⟩⟩ := id hT
  refine kt_of htr (by decide) rfl rfl (Nat.le_of_ble_eq_true rfl) ?_
  show ks_Y l G mX11_patch (d + 9) 0 [(0, .ref 0), (1, .int x), (2, .int v)] [] S _
  refine kt_iload_n dX11_patch_0 rfl rfl ?_
  refine kt_if_lt (tgt := 15) dX11_patch_1 (by decide) rfl (fun hc1 => ?_) (fun hc1 => ?_)
  · exact kt_throw (k := 1) (names := ["java/lang/RuntimeException", "java/lang/Exception"]) rfl (by decide +kernel) (by decide +kernel) tw_cl1 tw_in1 tw_at1 (by decide) (Nat.le_of_ble_eq_true rfl) hSB dX11_patch_15 dX11_patch_18 dX11_patch_19 dX11_patch_22 ⟨rfl, rfl⟩
  · refine kt_iload_n dX11_patch_4 rfl rfl ?_
    refine kt_aload_n dX11_patch_5 rfl rfl ?_
    refine kt_getf (T := TX11) (kf := 0) kx_1053 rfl in_X11 cl_X11 (by decide) h0 rfl dX11_patch_6 rfl ?_
    refine kt_getf (T := TX1) (kf := 1) kx_59 rfl in_X1 cl_X1 (by decide) e1 rfl dX11_patch_9 rfl ?_
    refine kt_icmp_lt (tgt := 23) dX11_patch_12 (by decide) rfl (fun hc12 => ?_) (fun hc12 => ?_)
    · exact absurd ⟨hc1, by rw [hl]; exact hc12⟩ hx
    · exact kt_throw (k := 1) (names := ["java/lang/RuntimeException", "java/lang/Exception"]) rfl (by decide +kernel) (by decide +kernel) tw_cl1 tw_in1 tw_at1 (by decide) (Nat.le_of_ble_eq_true rfl) hSB dX11_patch_15 dX11_patch_18 dX11_patch_19 dX11_patch_22 ⟨rfl, rfl⟩
set_option maxRecDepth 100000 in
set_option maxHeartbeats 800000 in
theorem t_word {l : Launch} {G : ks_G} {d : Nat} {S : ks_S} (htr : l.stackTraces = false) (hSB : S.1 < ks_B) {dc dp : Nat} {dt : Int64} {rs : Int32} (h0 : S.2.2 0 = some (jdO dc dp dt rs)) {T : List Nat} (hT : bfS S 1 2 1600 (some T)) {x : Int32} (hx : ¬ (¬ x < 0 ∧ x < nI T.length)) : kt_P l G yX11_word mX11_word (d + 9) [.ref 0, .int x] S (fun z S' => z = some (.int (nI 0)) ∧ S' = ks_one S) := by
  have h0 : S.2.2 0 = some (.inr (14, [.ref 1, .ref 3, .ref 5, .ref 7, .ref 14, .ref 20, .ref 27, .ref 41, .ref 52, .ref 53, .ref 54, .ref 55, .int (nI dc), .int (nI dp), .long dt, .int rs])) := h0
  obtain ⟨len, g, kg, hl16, e2, e1, ⟨hl, hg⟩⟩ := id hT
  refine kt_of htr (by decide) rfl rfl (Nat.le_of_ble_eq_true rfl) ?_
  show ks_Y l G mX11_word (d + 9) 0 [(0, .ref 0), (1, .int x)] [] S _
  refine kt_iload_n dX11_word_0 rfl rfl ?_
  refine kt_if_lt (tgt := 15) dX11_word_1 (by decide) rfl (fun hc1 => ?_) (fun hc1 => ?_)
  · exact kt_throw (k := 0) (names := ["java/lang/RuntimeException", "java/lang/Exception"]) rfl (by decide +kernel) (by decide +kernel) tw_cl0 tw_in0 tw_at0 (by decide) (Nat.le_of_ble_eq_true rfl) hSB dX11_word_15 dX11_word_18 dX11_word_19 dX11_word_22 ⟨rfl, rfl⟩
  · refine kt_iload_n dX11_word_4 rfl rfl ?_
    refine kt_aload_n dX11_word_5 rfl rfl ?_
    refine kt_getf (T := TX11) (kf := 0) kx_1053 rfl in_X11 cl_X11 (by decide) h0 rfl dX11_word_6 rfl ?_
    refine kt_getf (T := TX1) (kf := 1) kx_59 rfl in_X1 cl_X1 (by decide) e1 rfl dX11_word_9 rfl ?_
    refine kt_icmp_lt (tgt := 23) dX11_word_12 (by decide) rfl (fun hc12 => ?_) (fun hc12 => ?_)
    · exact absurd ⟨hc1, by rw [hl]; exact hc12⟩ hx
    · exact kt_throw (k := 0) (names := ["java/lang/RuntimeException", "java/lang/Exception"]) rfl (by decide +kernel) (by decide +kernel) tw_cl0 tw_in0 tw_at0 (by decide) (Nat.le_of_ble_eq_true rfl) hSB dX11_word_15 dX11_word_18 dX11_word_19 dX11_word_22 ⟨rfl, rfl⟩
set_option maxRecDepth 100000 in
set_option maxHeartbeats 800000 in
theorem t_key {l : Launch} {G : ks_G} {d : Nat} {S : ks_S} (htr : l.stackTraces = false) (hSB : S.1 < ks_B) {dc dp : Nat} {dt : Int64} {rs : Int32} (h0 : S.2.2 0 = some (jdO dc dp dt rs)) {x f : Int32} (hx : ¬ (¬ x < nI 1 ∧ ¬ f < 0 ∧ f ≤ nI 2)) : kt_P l G yX11_key mX11_key (d + 9) [.ref 0, .int x, .int f] S (fun z S' => z = some (.int (nI 1)) ∧ S' = ks_one S) := by
  have h0 : S.2.2 0 = some (.inr (14, [.ref 1, .ref 3, .ref 5, .ref 7, .ref 14, .ref 20, .ref 27, .ref 41, .ref 52, .ref 53, .ref 54, .ref 55, .int (nI dc), .int (nI dp), .long dt, .int rs])) := h0
  refine kt_of htr (by decide) rfl rfl (Nat.le_of_ble_eq_true rfl) ?_
  show ks_Y l G mX11_key (d + 9) 0 [(0, .ref 0), (1, .int x), (2, .int f)] [] S _
  refine kt_iload_n dX11_key_0 rfl rfl ?_
  refine kt_iconst (x := nI 1) dX11_key_1 (by decide) rfl ?_
  refine kt_icmp_lt (tgt := 14) dX11_key_2 (by decide) rfl (fun hc2 => ?_) (fun hc2 => ?_)
  · exact kt_throw (k := 1) (names := ["java/lang/RuntimeException", "java/lang/Exception"]) rfl (by decide +kernel) (by decide +kernel) tw_cl1 tw_in1 tw_at1 (by decide) (Nat.le_of_ble_eq_true rfl) hSB dX11_key_14 dX11_key_17 dX11_key_18 dX11_key_21 ⟨rfl, rfl⟩
  · refine kt_iload_n dX11_key_5 rfl rfl ?_
    refine kt_if_lt (tgt := 14) dX11_key_6 (by decide) rfl (fun hc6 => ?_) (fun hc6 => ?_)
    · exact kt_throw (k := 1) (names := ["java/lang/RuntimeException", "java/lang/Exception"]) rfl (by decide +kernel) (by decide +kernel) tw_cl1 tw_in1 tw_at1 (by decide) (Nat.le_of_ble_eq_true rfl) hSB dX11_key_14 dX11_key_17 dX11_key_18 dX11_key_21 ⟨rfl, rfl⟩
    · refine kt_iload_n dX11_key_9 rfl rfl ?_
      refine kt_iconst (x := nI 2) dX11_key_10 (by decide) rfl ?_
      refine kt_icmp_le (tgt := 22) dX11_key_11 (by decide) rfl (fun hc11 => ?_) (fun hc11 => ?_)
      · exact absurd ⟨hc2, hc6, hc11⟩ hx
      · exact kt_throw (k := 1) (names := ["java/lang/RuntimeException", "java/lang/Exception"]) rfl (by decide +kernel) (by decide +kernel) tw_cl1 tw_in1 tw_at1 (by decide) (Nat.le_of_ble_eq_true rfl) hSB dX11_key_14 dX11_key_17 dX11_key_18 dX11_key_21 ⟨rfl, rfl⟩
set_option maxRecDepth 100000 in
set_option maxHeartbeats 800000 in
theorem t_keyF0 {l : Launch} {G : ks_G} {d : Nat} {S : ks_S} (htr : l.stackTraces = false) (hSB : S.1 < ks_B) {dc dp : Nat} {dt : Int64} {rs : Int32} (h0 : S.2.2 0 = some (jdO dc dp dt rs)) {T : List Nat} (hT : bfS S 1 2 1600 (some T)) {x : Int32} (hx : ¬ x < nI 1) (hf : 1600 < T.length + 33) : kt_P l G yX11_key mX11_key (d + 9) [.ref 0, .int x, .int (nI 0)] S (fun z S' => z = some (.int (nI 0)) ∧ S' = ks_one S) := by
  have h0 : S.2.2 0 = some (.inr (14, [.ref 1, .ref 3, .ref 5, .ref 7, .ref 14, .ref 20, .ref 27, .ref 41, .ref 52, .ref 53, .ref 54, .ref 55, .int (nI dc), .int (nI dp), .long dt, .int rs])) := h0
  obtain ⟨len, g, kg, hl16, e2, e1, ⟨hl, hg⟩⟩ := id hT
  refine kt_of htr (by decide) rfl rfl (Nat.le_of_ble_eq_true rfl) ?_
  show ks_Y l G mX11_key (d + 9) 0 [(0, .ref 0), (1, .int x), (2, .int (nI 0))] [] S _
  refine kt_iload_n dX11_key_0 rfl rfl ?_
  refine kt_iconst (x := nI 1) dX11_key_1 (by decide) rfl ?_
  refine kt_icmp_lt (tgt := 14) dX11_key_2 (by decide) rfl (fun h => absurd h hx) (fun _ => ?_)
  refine kt_iload_n dX11_key_5 rfl rfl ?_
  refine kt_if_ltN (tgt := 14) (by decide) dX11_key_6 (by decide) rfl ?_
  refine kt_iload_n dX11_key_9 rfl rfl ?_
  refine kt_iconst (x := nI 2) dX11_key_10 (by decide) rfl ?_
  refine kt_icmp_leN (tgt := 22) (by decide) (by decide) dX11_key_11 (by decide) rfl (fun _ => ?_) (fun h => absurd h (by decide))
  refine kt_iload_n dX11_key_22 rfl rfl ?_
  refine kt_if_neN (tgt := 31) (by decide) dX11_key_23 (by decide) rfl (fun h => absurd h (by decide)) (fun _ => ?_)
  refine kt_bipush (x := nI 33) dX11_key_26 (by decide) rfl ?_
  refine kt_goto (tgt := 43) dX11_key_28 (by decide) ?_
  refine kt_istore_n dX11_key_43 (by decide) rfl ?_
  refine kt_sub [(3, _), (0, _), (1, _), (2, _)] rfl ?_
  refine kt_aload_n dX11_key_44 rfl rfl ?_
  refine kt_getf (T := TX11) (kf := 0) kx_1053 rfl in_X11 cl_X11 (by decide) h0 rfl dX11_key_45 rfl ?_
  refine kt_getf (T := TX1) (kf := 1) kx_59 rfl in_X1 cl_X1 (by decide) e1 rfl dX11_key_48 rfl ?_
  refine kt_iload_n dX11_key_51 rfl rfl ?_
  refine kt_addN dX11_key_52 rfl ?_
  refine kt_sipush (x := nI 1600) dX11_key_53 (by decide) rfl ?_
  refine kt_icmp_leN (tgt := 67) (by omega) (by decide) dX11_key_56 (by decide) rfl (fun h2 => absurd h2 (by omega)) (fun h2 => ?_)
  exact kt_throw (k := 0) (names := ["java/lang/RuntimeException", "java/lang/Exception"]) rfl (by decide +kernel) (by decide +kernel) tw_cl0 tw_in0 tw_at0 (by decide) (Nat.le_of_ble_eq_true rfl) hSB dX11_key_59 dX11_key_62 dX11_key_63 dX11_key_66 ⟨rfl, rfl⟩
set_option maxRecDepth 100000 in
set_option maxHeartbeats 800000 in
theorem t_keyF1 {l : Launch} {G : ks_G} {d : Nat} {S : ks_S} (htr : l.stackTraces = false) (hSB : S.1 < ks_B) {dc dp : Nat} {dt : Int64} {rs : Int32} (h0 : S.2.2 0 = some (jdO dc dp dt rs)) {T : List Nat} (hT : bfS S 1 2 1600 (some T)) {x : Int32} (hx : ¬ x < nI 1) (hf : 1600 < T.length + 65) : kt_P l G yX11_key mX11_key (d + 9) [.ref 0, .int x, .int (nI 1)] S (fun z S' => z = some (.int (nI 0)) ∧ S' = ks_one S) := by
  have h0 : S.2.2 0 = some (.inr (14, [.ref 1, .ref 3, .ref 5, .ref 7, .ref 14, .ref 20, .ref 27, .ref 41, .ref 52, .ref 53, .ref 54, .ref 55, .int (nI dc), .int (nI dp), .long dt, .int rs])) := h0
  obtain ⟨len, g, kg, hl16, e2, e1, ⟨hl, hg⟩⟩ := id hT
  refine kt_of htr (by decide) rfl rfl (Nat.le_of_ble_eq_true rfl) ?_
  show ks_Y l G mX11_key (d + 9) 0 [(0, .ref 0), (1, .int x), (2, .int (nI 1))] [] S _
  refine kt_iload_n dX11_key_0 rfl rfl ?_
  refine kt_iconst (x := nI 1) dX11_key_1 (by decide) rfl ?_
  refine kt_icmp_lt (tgt := 14) dX11_key_2 (by decide) rfl (fun h => absurd h hx) (fun _ => ?_)
  refine kt_iload_n dX11_key_5 rfl rfl ?_
  refine kt_if_ltN (tgt := 14) (by decide) dX11_key_6 (by decide) rfl ?_
  refine kt_iload_n dX11_key_9 rfl rfl ?_
  refine kt_iconst (x := nI 2) dX11_key_10 (by decide) rfl ?_
  refine kt_icmp_leN (tgt := 22) (by decide) (by decide) dX11_key_11 (by decide) rfl (fun _ => ?_) (fun h => absurd h (by decide))
  refine kt_iload_n dX11_key_22 rfl rfl ?_
  refine kt_if_neN (tgt := 31) (by decide) dX11_key_23 (by decide) rfl (fun _ => ?_) (fun h => absurd h (by decide))
  refine kt_iload_n dX11_key_31 rfl rfl ?_
  refine kt_iconst (x := nI 1) dX11_key_32 (by decide) rfl ?_
  refine kt_icmp_neN (tgt := 41) (by decide) (by decide) dX11_key_33 (by decide) rfl (fun h => absurd h (by decide)) (fun _ => ?_)
  refine kt_bipush (x := nI 65) dX11_key_36 (by decide) rfl ?_
  refine kt_goto (tgt := 43) dX11_key_38 (by decide) ?_
  refine kt_istore_n dX11_key_43 (by decide) rfl ?_
  refine kt_sub [(3, _), (0, _), (1, _), (2, _)] rfl ?_
  refine kt_aload_n dX11_key_44 rfl rfl ?_
  refine kt_getf (T := TX11) (kf := 0) kx_1053 rfl in_X11 cl_X11 (by decide) h0 rfl dX11_key_45 rfl ?_
  refine kt_getf (T := TX1) (kf := 1) kx_59 rfl in_X1 cl_X1 (by decide) e1 rfl dX11_key_48 rfl ?_
  refine kt_iload_n dX11_key_51 rfl rfl ?_
  refine kt_addN dX11_key_52 rfl ?_
  refine kt_sipush (x := nI 1600) dX11_key_53 (by decide) rfl ?_
  refine kt_icmp_leN (tgt := 67) (by omega) (by decide) dX11_key_56 (by decide) rfl (fun h2 => absurd h2 (by omega)) (fun h2 => ?_)
  exact kt_throw (k := 0) (names := ["java/lang/RuntimeException", "java/lang/Exception"]) rfl (by decide +kernel) (by decide +kernel) tw_cl0 tw_in0 tw_at0 (by decide) (Nat.le_of_ble_eq_true rfl) hSB dX11_key_59 dX11_key_62 dX11_key_63 dX11_key_66 ⟨rfl, rfl⟩
set_option maxRecDepth 100000 in
set_option maxHeartbeats 800000 in
theorem t_keyF2 {l : Launch} {G : ks_G} {d : Nat} {S : ks_S} (htr : l.stackTraces = false) (hSB : S.1 < ks_B) {dc dp : Nat} {dt : Int64} {rs : Int32} (h0 : S.2.2 0 = some (jdO dc dp dt rs)) {T : List Nat} (hT : bfS S 1 2 1600 (some T)) {x : Int32} (hx : ¬ x < nI 1) (hf : 1600 < T.length + 20) : kt_P l G yX11_key mX11_key (d + 9) [.ref 0, .int x, .int (nI 2)] S (fun z S' => z = some (.int (nI 0)) ∧ S' = ks_one S) := by
  have h0 : S.2.2 0 = some (.inr (14, [.ref 1, .ref 3, .ref 5, .ref 7, .ref 14, .ref 20, .ref 27, .ref 41, .ref 52, .ref 53, .ref 54, .ref 55, .int (nI dc), .int (nI dp), .long dt, .int rs])) := h0
  obtain ⟨len, g, kg, hl16, e2, e1, ⟨hl, hg⟩⟩ := id hT
  refine kt_of htr (by decide) rfl rfl (Nat.le_of_ble_eq_true rfl) ?_
  show ks_Y l G mX11_key (d + 9) 0 [(0, .ref 0), (1, .int x), (2, .int (nI 2))] [] S _
  refine kt_iload_n dX11_key_0 rfl rfl ?_
  refine kt_iconst (x := nI 1) dX11_key_1 (by decide) rfl ?_
  refine kt_icmp_lt (tgt := 14) dX11_key_2 (by decide) rfl (fun h => absurd h hx) (fun _ => ?_)
  refine kt_iload_n dX11_key_5 rfl rfl ?_
  refine kt_if_ltN (tgt := 14) (by decide) dX11_key_6 (by decide) rfl ?_
  refine kt_iload_n dX11_key_9 rfl rfl ?_
  refine kt_iconst (x := nI 2) dX11_key_10 (by decide) rfl ?_
  refine kt_icmp_leN (tgt := 22) (by decide) (by decide) dX11_key_11 (by decide) rfl (fun _ => ?_) (fun h => absurd h (by decide))
  refine kt_iload_n dX11_key_22 rfl rfl ?_
  refine kt_if_neN (tgt := 31) (by decide) dX11_key_23 (by decide) rfl (fun _ => ?_) (fun h => absurd h (by decide))
  refine kt_iload_n dX11_key_31 rfl rfl ?_
  refine kt_iconst (x := nI 1) dX11_key_32 (by decide) rfl ?_
  refine kt_icmp_neN (tgt := 41) (by decide) (by decide) dX11_key_33 (by decide) rfl (fun _ => ?_) (fun h => absurd h (by decide))
  refine kt_bipush (x := nI 20) dX11_key_41 (by decide) rfl ?_
  refine kt_istore_n dX11_key_43 (by decide) rfl ?_
  refine kt_sub [(3, _), (0, _), (1, _), (2, _)] rfl ?_
  refine kt_aload_n dX11_key_44 rfl rfl ?_
  refine kt_getf (T := TX11) (kf := 0) kx_1053 rfl in_X11 cl_X11 (by decide) h0 rfl dX11_key_45 rfl ?_
  refine kt_getf (T := TX1) (kf := 1) kx_59 rfl in_X1 cl_X1 (by decide) e1 rfl dX11_key_48 rfl ?_
  refine kt_iload_n dX11_key_51 rfl rfl ?_
  refine kt_addN dX11_key_52 rfl ?_
  refine kt_sipush (x := nI 1600) dX11_key_53 (by decide) rfl ?_
  refine kt_icmp_leN (tgt := 67) (by omega) (by decide) dX11_key_56 (by decide) rfl (fun h2 => absurd h2 (by omega)) (fun h2 => ?_)
  exact kt_throw (k := 0) (names := ["java/lang/RuntimeException", "java/lang/Exception"]) rfl (by decide +kernel) (by decide +kernel) tw_cl0 tw_in0 tw_at0 (by decide) (Nat.le_of_ble_eq_true rfl) hSB dX11_key_59 dX11_key_62 dX11_key_63 dX11_key_66 ⟨rfl, rfl⟩
set_option maxRecDepth 100000 in
set_option maxHeartbeats 800000 in
theorem t_digest {l : Launch} {G : ks_G} {d : Nat} {S : ks_S} (htr : l.stackTraces = false) (hSB : S.1 < ks_B) {dc dp : Nat} {dt : Int64} {rs : Int32} (h0 : S.2.2 0 = some (jdO dc dp dt rs)) {x : Int32} (hx : ¬ (¬ x < 0 ∧ x ≤ nI 3)) : kt_P l G yX11_digest mX11_digest (d + 9) [.ref 0, .int x] S (fun z S' => z = some (.int (nI 1)) ∧ S' = ks_one S) := by
  have h0 : S.2.2 0 = some (.inr (14, [.ref 1, .ref 3, .ref 5, .ref 7, .ref 14, .ref 20, .ref 27, .ref 41, .ref 52, .ref 53, .ref 54, .ref 55, .int (nI dc), .int (nI dp), .long dt, .int rs])) := h0
  refine kt_of htr (by decide) rfl rfl (Nat.le_of_ble_eq_true rfl) ?_
  show ks_Y l G mX11_digest (d + 9) 0 [(0, .ref 0), (1, .int x)] [] S _
  refine kt_iload_n dX11_digest_0 rfl rfl ?_
  refine kt_if_lt (tgt := 9) dX11_digest_1 (by decide) rfl (fun hc1 => ?_) (fun hc1 => ?_)
  · exact kt_throw (k := 1) (names := ["java/lang/RuntimeException", "java/lang/Exception"]) rfl (by decide +kernel) (by decide +kernel) tw_cl1 tw_in1 tw_at1 (by decide) (Nat.le_of_ble_eq_true rfl) hSB dX11_digest_9 dX11_digest_12 dX11_digest_13 dX11_digest_16 ⟨rfl, rfl⟩
  · refine kt_iload_n dX11_digest_4 rfl rfl ?_
    refine kt_iconst (x := nI 3) dX11_digest_5 (by decide) rfl ?_
    refine kt_icmp_le (tgt := 17) dX11_digest_6 (by decide) rfl (fun hc6 => ?_) (fun hc6 => ?_)
    · exact absurd ⟨hc1, hc6⟩ hx
    · exact kt_throw (k := 1) (names := ["java/lang/RuntimeException", "java/lang/Exception"]) rfl (by decide +kernel) (by decide +kernel) tw_cl1 tw_in1 tw_at1 (by decide) (Nat.le_of_ble_eq_true rfl) hSB dX11_digest_9 dX11_digest_12 dX11_digest_13 dX11_digest_16 ⟨rfl, rfl⟩
set_option maxRecDepth 100000 in
set_option maxHeartbeats 800000 in
theorem t_open {l : Launch} {G : ks_G} {d : Nat} {S : ks_S} (htr : l.stackTraces = false) (hSB : S.1 < ks_B) {dc dp : Nat} {dt : Int64} {rs : Int32} (h0 : S.2.2 0 = some (jdO dc dp dt rs)) {n best : Nat} {cc : Int32} {tk : Int64} {B : Nat → Bk} (hX : chX S n best cc tk B) {x : Int32} {v : Int64} (hx : ¬ (¬ x < -1 ∧ ¬ nI n ≤ x ∧ unL v = false)) : kt_P l G yX11_open mX11_open (d + 9) [.ref 0, .int x, .long v] S (fun z S' => z = some (.int (nI 1)) ∧ S' = ks_one S) := by
  have h0 : S.2.2 0 = some (.inr (14, [.ref 1, .ref 3, .ref 5, .ref 7, .ref 14, .ref 20, .ref 27, .ref 41, .ref 52, .ref 53, .ref 54, .ref 55, .int (nI dc), .int (nI dp), .long dt, .int rs])) := h0
  obtain ⟨hO, ⟨bf, h42, hbf⟩, hB, hn60⟩ := id hX
  refine kt_of htr (by decide) rfl rfl (Nat.le_of_ble_eq_true rfl) ?_
  show ks_Y l G mX11_open (d + 9) 0 [(0, .ref 0), (1, .int x), (2, .long v)] [] S _
  refine kt_iload_n dX11_open_0 rfl rfl ?_
  refine kt_iconst (x := (-1)) dX11_open_1 (by decide) rfl ?_
  refine kt_icmp_lt (tgt := 23) dX11_open_2 (by decide) rfl (fun hc2 => ?_) (fun hc2 => ?_)
  · exact kt_throw (k := 1) (names := ["java/lang/RuntimeException", "java/lang/Exception"]) rfl (by decide +kernel) (by decide +kernel) tw_cl1 tw_in1 tw_at1 (by decide) (Nat.le_of_ble_eq_true rfl) hSB dX11_open_23 dX11_open_26 dX11_open_27 dX11_open_30 ⟨rfl, rfl⟩
  · refine kt_iload_n dX11_open_5 rfl rfl ?_
    refine kt_aload_n dX11_open_6 rfl rfl ?_
    refine kt_getf (T := TX11) (kf := 7) kx_1060 rfl in_X11 cl_X11 (by decide) h0 rfl dX11_open_7 rfl ?_
    refine kt_getf (T := TX2) (kf := 3) kx_736 rfl in_X2 cl_X2 (by decide) hO rfl dX11_open_10 rfl ?_
    refine kt_icmp_ge (tgt := 23) dX11_open_13 (by decide) rfl (fun hc13 => ?_) (fun hc13 => ?_)
    · exact kt_throw (k := 1) (names := ["java/lang/RuntimeException", "java/lang/Exception"]) rfl (by decide +kernel) (by decide +kernel) tw_cl1 tw_in1 tw_at1 (by decide) (Nat.le_of_ble_eq_true rfl) hSB dX11_open_23 dX11_open_26 dX11_open_27 dX11_open_30 ⟨rfl, rfl⟩
    · refine kt_lload_n dX11_open_16 rfl rfl ?_
      refine kt_callS (n := 1) (M' := mX11_isNotUnsigned) (c_jd_unsigned (d := d + 8) (v := v)) kx_1259 kx_1260 kx_1 kx_1261 (by decide +kernel) rfl (by decide) (Nat.le_of_ble_eq_true rfl) rfl dX11_open_17 rfl (fun z1 T1 y1 => ?_)
      obtain ⟨rfl, hT1⟩ := y1
      obtain rfl := hT1.symm
      refine kt_if_eqZ (tgt := 31) dX11_open_20 (by decide) rfl (fun hc20 => ?_) (fun hc20 => ?_)
      · exact absurd ⟨hc2, hc13, by first | exact hc20 | exact Bool.eq_false_iff.mpr hc20⟩ hx
      · exact kt_throw (k := 1) (names := ["java/lang/RuntimeException", "java/lang/Exception"]) rfl (by decide +kernel) (by decide +kernel) tw_cl1 tw_in1 tw_at1 (by decide) (Nat.le_of_ble_eq_true rfl) hSB dX11_open_23 dX11_open_26 dX11_open_27 dX11_open_30 ⟨rfl, rfl⟩
set_option maxRecDepth 100000 in
set_option maxHeartbeats 800000 in
theorem t_tx {l : Launch} {G : ks_G} {d : Nat} {S : ks_S} (htr : l.stackTraces = false) (hSB : S.1 < ks_B) {dc dp : Nat} {dt : Int64} {rs : Int32} (h0 : S.2.2 0 = some (jdO dc dp dt rs)) {v k : Int64} (hx : ¬ (unL v = false ∧ unL k = false)) : kt_P l G yX11_tx mX11_tx (d + 9) [.ref 0, .long v, .long k] S (fun z S' => z = some (.int (nI 1)) ∧ S' = ks_one S) := by
  have h0 : S.2.2 0 = some (.inr (14, [.ref 1, .ref 3, .ref 5, .ref 7, .ref 14, .ref 20, .ref 27, .ref 41, .ref 52, .ref 53, .ref 54, .ref 55, .int (nI dc), .int (nI dp), .long dt, .int rs])) := h0
  refine kt_of htr (by decide) rfl rfl (Nat.le_of_ble_eq_true rfl) ?_
  show ks_Y l G mX11_tx (d + 9) 0 [(0, .ref 0), (1, .long v), (3, .long k)] [] S _
  refine kt_lload_n dX11_tx_0 rfl rfl ?_
  refine kt_callS (n := 1) (M' := mX11_isNotUnsigned) (c_jd_unsigned (d := d + 8) (v := v)) kx_1259 kx_1260 kx_1 kx_1261 (by decide +kernel) rfl (by decide) (Nat.le_of_ble_eq_true rfl) rfl dX11_tx_1 rfl (fun z1 T1 y1 => ?_)
  obtain ⟨rfl, hT1⟩ := y1
  obtain rfl := hT1.symm
  refine kt_if_neZ (tgt := 14) dX11_tx_4 (by decide) rfl (fun hc4 => ?_) (fun hc4 => ?_)
  · exact kt_throw (k := 1) (names := ["java/lang/RuntimeException", "java/lang/Exception"]) rfl (by decide +kernel) (by decide +kernel) tw_cl1 tw_in1 tw_at1 (by decide) (Nat.le_of_ble_eq_true rfl) hSB dX11_tx_14 dX11_tx_17 dX11_tx_18 dX11_tx_21 ⟨rfl, rfl⟩
  · refine kt_lload_n dX11_tx_7 rfl rfl ?_
    refine kt_callS (n := 1) (M' := mX11_isNotUnsigned) (c_jd_unsigned (d := d + 8) (v := k)) kx_1259 kx_1260 kx_1 kx_1261 (by decide +kernel) rfl (by decide) (Nat.le_of_ble_eq_true rfl) rfl dX11_tx_8 rfl (fun z1 T1 y1 => ?_)
    obtain ⟨rfl, hT1⟩ := y1
    obtain rfl := hT1.symm
    refine kt_if_eqZ (tgt := 22) dX11_tx_11 (by decide) rfl (fun hc11 => ?_) (fun hc11 => ?_)
    · exact absurd ⟨by first | exact hc4 | exact Bool.eq_false_iff.mpr hc4, by first | exact hc11 | exact Bool.eq_false_iff.mpr hc11⟩ hx
    · exact kt_throw (k := 1) (names := ["java/lang/RuntimeException", "java/lang/Exception"]) rfl (by decide +kernel) (by decide +kernel) tw_cl1 tw_in1 tw_at1 (by decide) (Nat.le_of_ble_eq_true rfl) hSB dX11_tx_14 dX11_tx_17 dX11_tx_18 dX11_tx_21 ⟨rfl, rfl⟩
set_option maxRecDepth 100000 in
set_option maxHeartbeats 800000 in
theorem t_txF {l : Launch} {G : ks_G} {d : Nat} {S : ks_S} (htr : l.stackTraces = false) (hSB : S.1 < ks_B) {dc dp : Nat} {dt : Int64} {rs : Int32} (h0 : S.2.2 0 = some (jdO dc dp dt rs)) {v k : Int64} (hv : unL v = false) (hk : unL k = false) (hdc : dc = 12) : kt_P l G yX11_tx mX11_tx (d + 9) [.ref 0, .long v, .long k] S (fun z S' => z = some (.int (nI 0)) ∧ S' = ks_one S) := by
  have h0 : S.2.2 0 = some (.inr (14, [.ref 1, .ref 3, .ref 5, .ref 7, .ref 14, .ref 20, .ref 27, .ref 41, .ref 52, .ref 53, .ref 54, .ref 55, .int (nI dc), .int (nI dp), .long dt, .int rs])) := h0
  refine kt_of htr (by decide) rfl rfl (Nat.le_of_ble_eq_true rfl) ?_
  show ks_Y l G mX11_tx (d + 9) 0 [(0, .ref 0), (1, .long v), (3, .long k)] [] S _
  refine kt_lload_n dX11_tx_0 rfl rfl ?_
  refine kt_callS (n := 1) (M' := mX11_isNotUnsigned) (c_jd_unsigned (d := d + 8) (v := v)) kx_1259 kx_1260 kx_1 kx_1261 (by decide +kernel) rfl (by decide) (Nat.le_of_ble_eq_true rfl) rfl dX11_tx_1 rfl (fun z1 T1 y1 => ?_)
  obtain ⟨rfl, hT1⟩ := y1
  obtain rfl := hT1.symm
  rw [hv]
  refine kt_if_neZ (tgt := 14) dX11_tx_4 (by decide) rfl (fun h => absurd h (by decide)) (fun _ => ?_)
  refine kt_lload_n dX11_tx_7 rfl rfl ?_
  refine kt_callS (n := 1) (M' := mX11_isNotUnsigned) (c_jd_unsigned (d := d + 8) (v := k)) kx_1259 kx_1260 kx_1 kx_1261 (by decide +kernel) rfl (by decide) (Nat.le_of_ble_eq_true rfl) rfl dX11_tx_8 rfl (fun z1 T1 y1 => ?_)
  obtain ⟨rfl, hT1⟩ := y1
  obtain rfl := hT1.symm
  rw [hk]
  refine kt_if_eqZ (tgt := 22) dX11_tx_11 (by decide) rfl (fun _ => ?_) (fun h => absurd h (by decide))
  refine kt_aload_n dX11_tx_22 rfl rfl ?_
  refine kt_getf (T := TX11) (kf := 12) kx_1065 rfl in_X11 cl_X11 (by decide) h0 rfl dX11_tx_23 rfl ?_
  refine kt_bipush (x := nI 12) dX11_tx_26 (by decide) rfl ?_
  refine kt_icmp_neN (tgt := 39) (by omega) (by decide) dX11_tx_28 (by decide) rfl (fun h4 => absurd h4 (by omega)) (fun h4 => ?_)
  exact kt_throw (k := 0) (names := ["java/lang/RuntimeException", "java/lang/Exception"]) rfl (by decide +kernel) (by decide +kernel) tw_cl0 tw_in0 tw_at0 (by decide) (Nat.le_of_ble_eq_true rfl) hSB dX11_tx_31 dX11_tx_34 dX11_tx_35 dX11_tx_38 ⟨rfl, rfl⟩
set_option maxRecDepth 100000 in
set_option maxHeartbeats 800000 in
theorem t_outputS {l : Launch} {G : ks_G} {d : Nat} {S : ks_S} (htr : l.stackTraces = false) (hSB : S.1 < ks_B) {dc dp : Nat} {dt : Int64} {rs : Int32} (h0 : S.2.2 0 = some (jdO dc dp dt rs)) {v : Int64} (hdc : dc = 0) : kt_P l G yX11_output mX11_output (d + 9) [.ref 0, .long v] S (fun z S' => z = some (.int (nI 2)) ∧ S' = ks_one S) := by
  have h0 : S.2.2 0 = some (.inr (14, [.ref 1, .ref 3, .ref 5, .ref 7, .ref 14, .ref 20, .ref 27, .ref 41, .ref 52, .ref 53, .ref 54, .ref 55, .int (nI dc), .int (nI dp), .long dt, .int rs])) := h0
  refine kt_of htr (by decide) rfl rfl (Nat.le_of_ble_eq_true rfl) ?_
  show ks_Y l G mX11_output (d + 9) 0 [(0, .ref 0), (1, .long v)] [] S _
  refine kt_aload_n dX11_output_0 rfl rfl ?_
  refine kt_getf (T := TX11) (kf := 12) kx_1065 rfl in_X11 cl_X11 (by decide) h0 rfl dX11_output_1 rfl ?_
  refine kt_if_neN (tgt := 15) (by omega) dX11_output_4 (by decide) rfl (fun h1 => absurd h1 (by omega)) (fun h1 => ?_)
  exact kt_throw (k := 2) (names := ["java/lang/RuntimeException", "java/lang/Exception"]) rfl (by decide +kernel) (by decide +kernel) tw_cl2 tw_in2 tw_at2 (by decide) (Nat.le_of_ble_eq_true rfl) hSB dX11_output_7 dX11_output_10 dX11_output_11 dX11_output_14 ⟨rfl, rfl⟩
set_option maxRecDepth 100000 in
set_option maxHeartbeats 800000 in
theorem t_pushS {l : Launch} {G : ks_G} {d : Nat} {S : ks_S} (htr : l.stackTraces = false) (hSB : S.1 < ks_B) {dc dp : Nat} {dt : Int64} {rs : Int32} (h0 : S.2.2 0 = some (jdO dc dp dt rs)) {x : Int32} (hdc : dc = 0) : kt_P l G yX11_push mX11_push (d + 9) [.ref 0, .int x] S (fun z S' => z = some (.int (nI 2)) ∧ S' = ks_one S) := by
  have h0 : S.2.2 0 = some (.inr (14, [.ref 1, .ref 3, .ref 5, .ref 7, .ref 14, .ref 20, .ref 27, .ref 41, .ref 52, .ref 53, .ref 54, .ref 55, .int (nI dc), .int (nI dp), .long dt, .int rs])) := h0
  refine kt_of htr (by decide) rfl rfl (Nat.le_of_ble_eq_true rfl) ?_
  show ks_Y l G mX11_push (d + 9) 0 [(0, .ref 0), (1, .int x)] [] S _
  refine kt_aload_n dX11_push_0 rfl rfl ?_
  refine kt_getf (T := TX11) (kf := 12) kx_1065 rfl in_X11 cl_X11 (by decide) h0 rfl dX11_push_1 rfl ?_
  refine kt_if_neN (tgt := 15) (by omega) dX11_push_4 (by decide) rfl (fun h1 => absurd h1 (by omega)) (fun h1 => ?_)
  exact kt_throw (k := 2) (names := ["java/lang/RuntimeException", "java/lang/Exception"]) rfl (by decide +kernel) (by decide +kernel) tw_cl2 tw_in2 tw_at2 (by decide) (Nat.le_of_ble_eq_true rfl) hSB dX11_push_7 dX11_push_10 dX11_push_11 dX11_push_14 ⟨rfl, rfl⟩
set_option maxRecDepth 100000 in
set_option maxHeartbeats 800000 in
theorem t_signS {l : Launch} {G : ks_G} {d : Nat} {S : ks_S} (htr : l.stackTraces = false) (hSB : S.1 < ks_B) {dc dp : Nat} {dt : Int64} {rs : Int32} (h0 : S.2.2 0 = some (jdO dc dp dt rs)) {x y q : Int32} (hdc : dc = 0) : kt_P l G yX11_sign mX11_sign (d + 9) [.ref 0, .int x, .int y, .int q] S (fun z S' => z = some (.int (nI 2)) ∧ S' = ks_one S) := by
  have h0 : S.2.2 0 = some (.inr (14, [.ref 1, .ref 3, .ref 5, .ref 7, .ref 14, .ref 20, .ref 27, .ref 41, .ref 52, .ref 53, .ref 54, .ref 55, .int (nI dc), .int (nI dp), .long dt, .int rs])) := h0
  refine kt_of htr (by decide) rfl rfl (Nat.le_of_ble_eq_true rfl) ?_
  show ks_Y l G mX11_sign (d + 9) 0 [(0, .ref 0), (1, .int x), (2, .int y), (3, .int q)] [] S _
  refine kt_aload_n dX11_sign_0 rfl rfl ?_
  refine kt_getf (T := TX11) (kf := 12) kx_1065 rfl in_X11 cl_X11 (by decide) h0 rfl dX11_sign_1 rfl ?_
  refine kt_if_neN (tgt := 15) (by omega) dX11_sign_4 (by decide) rfl (fun h1 => absurd h1 (by omega)) (fun h1 => ?_)
  exact kt_throw (k := 2) (names := ["java/lang/RuntimeException", "java/lang/Exception"]) rfl (by decide +kernel) (by decide +kernel) tw_cl2 tw_in2 tw_at2 (by decide) (Nat.le_of_ble_eq_true rfl) hSB dX11_sign_7 dX11_sign_10 dX11_sign_11 dX11_sign_14 ⟨rfl, rfl⟩
set_option maxRecDepth 100000 in
set_option maxHeartbeats 800000 in
theorem t_outputF {l : Launch} {G : ks_G} {d : Nat} {S : ks_S} (htr : l.stackTraces = false) (hSB : S.1 < ks_B) {dc dp : Nat} {dt : Int64} {rs : Int32} (h0 : S.2.2 0 = some (jdO dc dp dt rs)) {T : List Nat} (hT : bfS S 1 2 1600 (some T)) {Ds : Nat → dTx} (hD : dfS S Ds) {v : Int64} (hdc : 0 < dc ∧ dc ≤ 12) (hf : ¬ ((Ds (dc - 1)).2.2.2.length ≠ 6 ∧ T.length ≤ 600)) : kt_P l G yX11_output mX11_output (d + 9) [.ref 0, .long v] S (fun z S' => z = some (.int (nI 0)) ∧ S' = ks_one S) := by
  have h0 : S.2.2 0 = some (.inr (14, [.ref 1, .ref 3, .ref 5, .ref 7, .ref 14, .ref 20, .ref 27, .ref 41, .ref 52, .ref 53, .ref 54, .ref 55, .int (nI dc), .int (nI dp), .long dt, .int rs])) := h0
  obtain ⟨len, g, kg, hl16, e2, e1, ⟨hl, hg⟩⟩ := id hT
  have h52 := hD.1
  have hxd := hD.2 (dc - 1) (by omega)
  obtain ⟨xsz, xid, xix, xsq, xvl, xsc, xU, xI, xO⟩ := dx_len hxd
  have xB := xU.2.2.2.2.2.2.2.2.2.2.2.2.2.2
  have xk := xU.2.2.2.2.2.2.2.2.2.2.1
  have xm := xU.2.2.2.2.2.2.2.2.2.2.2.1
  have x0 := xU.1
  have x1 := xU.2.1
  refine kt_of htr (by decide) rfl rfl (Nat.le_of_ble_eq_true rfl) ?_
  show ks_Y l G mX11_output (d + 9) 0 [(0, .ref 0), (1, .long v)] [] S _
  refine kt_aload_n dX11_output_0 rfl rfl ?_
  refine kt_getf (T := TX11) (kf := 12) kx_1065 rfl in_X11 cl_X11 (by decide) h0 rfl dX11_output_1 rfl ?_
  refine kt_if_neN (tgt := 15) (by omega) dX11_output_4 (by decide) rfl (fun h1 => ?_) (fun h1 => absurd h1 (by omega))
  refine kt_aload_n dX11_output_15 rfl rfl ?_
  refine kt_getf (T := TX11) (kf := 8) kx_1061 rfl in_X11 cl_X11 (by decide) h0 rfl dX11_output_16 rfl ?_
  refine kt_aload_n dX11_output_19 rfl rfl ?_
  refine kt_getf (T := TX11) (kf := 12) kx_1065 rfl in_X11 cl_X11 (by decide) h0 rfl dX11_output_20 rfl ?_
  refine kt_iconst (x := nI 1) dX11_output_23 (by decide) rfl ?_
  refine kt_subN (by omega) dX11_output_24 rfl ?_
  refine kt_aaldN (i := dc - 1) (b := (56 + 19 * (dc - 1))) (by decide) h52 rfl (by omega) (by decide) (if_pos (by omega)) dX11_output_25 rfl ?_
  refine kt_astore_n dX11_output_26 (by decide) rfl ?_
  refine kt_sub [(3, _), (0, _), (1, _)] rfl ?_
  refine kt_aload_n dX11_output_27 rfl rfl ?_
  refine kt_getf (T := TX4) (kf := 1) kx_789 rfl in_X4 cl_X4 (by decide) x0 rfl dX11_output_28 rfl ?_
  refine kt_bipush (x := nI 6) dX11_output_31 (by decide) rfl ?_
  refine kt_icmp_eqN (tgt := 49) (by omega) (by decide) dX11_output_33 (by decide) rfl (fun h2 => ?_) (fun h2 => ?_)
  · exact kt_throw (k := 0) (names := ["java/lang/RuntimeException", "java/lang/Exception"]) rfl (by decide +kernel) (by decide +kernel) tw_cl0 tw_in0 tw_at0 (by decide) (Nat.le_of_ble_eq_true rfl) hSB dX11_output_49 dX11_output_52 dX11_output_53 dX11_output_56 ⟨rfl, rfl⟩
  · refine kt_aload_n dX11_output_36 rfl rfl ?_
    refine kt_getf (T := TX11) (kf := 0) kx_1053 rfl in_X11 cl_X11 (by decide) h0 rfl dX11_output_37 rfl ?_
    refine kt_getf (T := TX1) (kf := 1) kx_59 rfl in_X1 cl_X1 (by decide) e1 rfl dX11_output_40 rfl ?_
    refine kt_sipush (x := nI 600) dX11_output_43 (by decide) rfl ?_
    refine kt_icmp_leN (tgt := 57) (by omega) (by decide) dX11_output_46 (by decide) rfl (fun h3 => absurd h3 (by omega)) (fun h3 => ?_)
    exact kt_throw (k := 0) (names := ["java/lang/RuntimeException", "java/lang/Exception"]) rfl (by decide +kernel) (by decide +kernel) tw_cl0 tw_in0 tw_at0 (by decide) (Nat.le_of_ble_eq_true rfl) hSB dX11_output_49 dX11_output_52 dX11_output_53 dX11_output_56 ⟨rfl, rfl⟩
set_option maxRecDepth 100000 in
set_option maxHeartbeats 800000 in
theorem t_push {l : Launch} {G : ks_G} {d : Nat} {S : ks_S} (htr : l.stackTraces = false) (hSB : S.1 < ks_B) {dc dp : Nat} {dt : Int64} {rs : Int32} (h0 : S.2.2 0 = some (jdO dc dp dt rs)) {T : List Nat} (hT : bfS S 1 2 1600 (some T)) {Ds : Nat → dTx} (hD : dfS S Ds) {x : Int32} (hdc : 0 < dc ∧ dc ≤ 12) (hx : ¬ (¬ x < 0 ∧ x < nI (Ds (dc - 1)).2.2.1.length)) : kt_P l G yX11_push mX11_push (d + 9) [.ref 0, .int x] S (fun z S' => z = some (.int (nI 1)) ∧ S' = ks_one S) := by
  have h0 : S.2.2 0 = some (.inr (14, [.ref 1, .ref 3, .ref 5, .ref 7, .ref 14, .ref 20, .ref 27, .ref 41, .ref 52, .ref 53, .ref 54, .ref 55, .int (nI dc), .int (nI dp), .long dt, .int rs])) := h0
  obtain ⟨len, g, kg, hl16, e2, e1, ⟨hl, hg⟩⟩ := id hT
  have h52 := hD.1
  have hxd := hD.2 (dc - 1) (by omega)
  obtain ⟨xsz, xid, xix, xsq, xvl, xsc, xU, xI, xO⟩ := dx_len hxd
  have xB := xU.2.2.2.2.2.2.2.2.2.2.2.2.2.2
  have xk := xU.2.2.2.2.2.2.2.2.2.2.1
  have xm := xU.2.2.2.2.2.2.2.2.2.2.2.1
  have x0 := xU.1
  have x1 := xU.2.1
  refine kt_of htr (by decide) rfl rfl (Nat.le_of_ble_eq_true rfl) ?_
  show ks_Y l G mX11_push (d + 9) 0 [(0, .ref 0), (1, .int x)] [] S _
  refine kt_aload_n dX11_push_0 rfl rfl ?_
  refine kt_getf (T := TX11) (kf := 12) kx_1065 rfl in_X11 cl_X11 (by decide) h0 rfl dX11_push_1 rfl ?_
  refine kt_if_neN (tgt := 15) (by omega) dX11_push_4 (by decide) rfl (fun h1 => ?_) (fun h1 => absurd h1 (by omega))
  refine kt_aload_n dX11_push_15 rfl rfl ?_
  refine kt_getf (T := TX11) (kf := 8) kx_1061 rfl in_X11 cl_X11 (by decide) h0 rfl dX11_push_16 rfl ?_
  refine kt_aload_n dX11_push_19 rfl rfl ?_
  refine kt_getf (T := TX11) (kf := 12) kx_1065 rfl in_X11 cl_X11 (by decide) h0 rfl dX11_push_20 rfl ?_
  refine kt_iconst (x := nI 1) dX11_push_23 (by decide) rfl ?_
  refine kt_subN (by omega) dX11_push_24 rfl ?_
  refine kt_aaldN (i := dc - 1) (b := (56 + 19 * (dc - 1))) (by decide) h52 rfl (by omega) (by decide) (if_pos (by omega)) dX11_push_25 rfl ?_
  refine kt_astore_n dX11_push_26 (by decide) rfl ?_
  refine kt_sub [(2, _), (0, _), (1, _)] rfl ?_
  refine kt_iload_n dX11_push_27 rfl rfl ?_
  refine kt_if_lt (tgt := 39) dX11_push_28 (by decide) rfl (fun h2 => ?_) (fun h2 => ?_)
  · exact kt_throw (k := 1) (names := ["java/lang/RuntimeException", "java/lang/Exception"]) rfl (by decide +kernel) (by decide +kernel) tw_cl1 tw_in1 tw_at1 (by decide) (Nat.le_of_ble_eq_true rfl) hSB dX11_push_39 dX11_push_42 dX11_push_43 dX11_push_46 ⟨rfl, rfl⟩
  · refine kt_iload_n dX11_push_31 rfl rfl ?_
    refine kt_aload_n dX11_push_32 rfl rfl ?_
    refine kt_getf (T := TX4) (kf := 0) kx_787 rfl in_X4 cl_X4 (by decide) x0 rfl dX11_push_33 rfl ?_
    refine kt_icmp_lt (tgt := 47) dX11_push_36 (by decide) rfl (fun h3 => ?_) (fun h3 => ?_)
    · exact absurd ⟨h2, h3⟩ hx
    · exact kt_throw (k := 1) (names := ["java/lang/RuntimeException", "java/lang/Exception"]) rfl (by decide +kernel) (by decide +kernel) tw_cl1 tw_in1 tw_at1 (by decide) (Nat.le_of_ble_eq_true rfl) hSB dX11_push_39 dX11_push_42 dX11_push_43 dX11_push_46 ⟨rfl, rfl⟩
set_option maxRecDepth 100000 in
set_option maxHeartbeats 800000 in
theorem t_sign {l : Launch} {G : ks_G} {d : Nat} {S : ks_S} (htr : l.stackTraces = false) (hSB : S.1 < ks_B) {dc dp : Nat} {dt : Int64} {rs : Int32} (h0 : S.2.2 0 = some (jdO dc dp dt rs)) {Ds : Nat → dTx} (hD : dfS S Ds) {x y q : Int32} (hdc : 0 < dc ∧ dc ≤ 12) (hx : ¬ (¬ x < 0 ∧ ¬ nI (Ds (dc - 1)).2.2.1.length ≤ x ∧ ¬ y < nI 1 ∧ ¬ q < 0 ∧ q ≤ nI 255)) : kt_P l G yX11_sign mX11_sign (d + 9) [.ref 0, .int x, .int y, .int q] S (fun z S' => z = some (.int (nI 1)) ∧ S' = ks_one S) := by
  have h0 : S.2.2 0 = some (.inr (14, [.ref 1, .ref 3, .ref 5, .ref 7, .ref 14, .ref 20, .ref 27, .ref 41, .ref 52, .ref 53, .ref 54, .ref 55, .int (nI dc), .int (nI dp), .long dt, .int rs])) := h0
  have h52 := hD.1
  have hxd := hD.2 (dc - 1) (by omega)
  obtain ⟨xsz, xid, xix, xsq, xvl, xsc, xU, xI, xO⟩ := dx_len hxd
  have xB := xU.2.2.2.2.2.2.2.2.2.2.2.2.2.2
  have xk := xU.2.2.2.2.2.2.2.2.2.2.1
  have xm := xU.2.2.2.2.2.2.2.2.2.2.2.1
  have x0 := xU.1
  have x1 := xU.2.1
  refine kt_of htr (by decide) rfl rfl (Nat.le_of_ble_eq_true rfl) ?_
  show ks_Y l G mX11_sign (d + 9) 0 [(0, .ref 0), (1, .int x), (2, .int y), (3, .int q)] [] S _
  refine kt_aload_n dX11_sign_0 rfl rfl ?_
  refine kt_getf (T := TX11) (kf := 12) kx_1065 rfl in_X11 cl_X11 (by decide) h0 rfl dX11_sign_1 rfl ?_
  refine kt_if_neN (tgt := 15) (by omega) dX11_sign_4 (by decide) rfl (fun h1 => ?_) (fun h1 => absurd h1 (by omega))
  refine kt_aload_n dX11_sign_15 rfl rfl ?_
  refine kt_getf (T := TX11) (kf := 8) kx_1061 rfl in_X11 cl_X11 (by decide) h0 rfl dX11_sign_16 rfl ?_
  refine kt_aload_n dX11_sign_19 rfl rfl ?_
  refine kt_getf (T := TX11) (kf := 12) kx_1065 rfl in_X11 cl_X11 (by decide) h0 rfl dX11_sign_20 rfl ?_
  refine kt_iconst (x := nI 1) dX11_sign_23 (by decide) rfl ?_
  refine kt_subN (by omega) dX11_sign_24 rfl ?_
  refine kt_aaldN (i := dc - 1) (b := (56 + 19 * (dc - 1))) (by decide) h52 rfl (by omega) (by decide) (if_pos (by omega)) dX11_sign_25 rfl ?_
  refine kt_astore dX11_sign_26 (by decide) rfl ?_
  refine kt_sub [(4, _), (0, _), (1, _), (2, _), (3, _)] rfl ?_
  refine kt_iload_n dX11_sign_28 rfl rfl ?_
  refine kt_if_lt (tgt := 57) dX11_sign_29 (by decide) rfl (fun hc29 => ?_) (fun hc29 => ?_)
  · exact kt_throw (k := 1) (names := ["java/lang/RuntimeException", "java/lang/Exception"]) rfl (by decide +kernel) (by decide +kernel) tw_cl1 tw_in1 tw_at1 (by decide) (Nat.le_of_ble_eq_true rfl) hSB dX11_sign_57 dX11_sign_60 dX11_sign_61 dX11_sign_64 ⟨rfl, rfl⟩
  · refine kt_iload_n dX11_sign_32 rfl rfl ?_
    refine kt_aload dX11_sign_33 rfl rfl ?_
    refine kt_getf (T := TX4) (kf := 0) kx_787 rfl in_X4 cl_X4 (by decide) x0 rfl dX11_sign_35 rfl ?_
    refine kt_icmp_ge (tgt := 57) dX11_sign_38 (by decide) rfl (fun hc38 => ?_) (fun hc38 => ?_)
    · exact kt_throw (k := 1) (names := ["java/lang/RuntimeException", "java/lang/Exception"]) rfl (by decide +kernel) (by decide +kernel) tw_cl1 tw_in1 tw_at1 (by decide) (Nat.le_of_ble_eq_true rfl) hSB dX11_sign_57 dX11_sign_60 dX11_sign_61 dX11_sign_64 ⟨rfl, rfl⟩
    · refine kt_iload_n dX11_sign_41 rfl rfl ?_
      refine kt_iconst (x := nI 1) dX11_sign_42 (by decide) rfl ?_
      refine kt_icmp_lt (tgt := 57) dX11_sign_43 (by decide) rfl (fun hc43 => ?_) (fun hc43 => ?_)
      · exact kt_throw (k := 1) (names := ["java/lang/RuntimeException", "java/lang/Exception"]) rfl (by decide +kernel) (by decide +kernel) tw_cl1 tw_in1 tw_at1 (by decide) (Nat.le_of_ble_eq_true rfl) hSB dX11_sign_57 dX11_sign_60 dX11_sign_61 dX11_sign_64 ⟨rfl, rfl⟩
      · refine kt_iload_n dX11_sign_46 rfl rfl ?_
        refine kt_if_lt (tgt := 57) dX11_sign_47 (by decide) rfl (fun hc47 => ?_) (fun hc47 => ?_)
        · exact kt_throw (k := 1) (names := ["java/lang/RuntimeException", "java/lang/Exception"]) rfl (by decide +kernel) (by decide +kernel) tw_cl1 tw_in1 tw_at1 (by decide) (Nat.le_of_ble_eq_true rfl) hSB dX11_sign_57 dX11_sign_60 dX11_sign_61 dX11_sign_64 ⟨rfl, rfl⟩
        · refine kt_iload_n dX11_sign_50 rfl rfl ?_
          refine kt_sipush (x := nI 255) dX11_sign_51 (by decide) rfl ?_
          refine kt_icmp_le (tgt := 65) dX11_sign_54 (by decide) rfl (fun hc54 => ?_) (fun hc54 => ?_)
          · exact absurd ⟨hc29, hc38, hc43, hc47, hc54⟩ hx
          · exact kt_throw (k := 1) (names := ["java/lang/RuntimeException", "java/lang/Exception"]) rfl (by decide +kernel) (by decide +kernel) tw_cl1 tw_in1 tw_at1 (by decide) (Nat.le_of_ble_eq_true rfl) hSB dX11_sign_57 dX11_sign_60 dX11_sign_61 dX11_sign_64 ⟨rfl, rfl⟩
set_option maxRecDepth 100000 in
set_option maxHeartbeats 800000 in
theorem t_seal {l : Launch} {G : ks_G} {d : Nat} {S : ks_S} (htr : l.stackTraces = false) (hSB : S.1 < ks_B) {dc dp : Nat} {dt : Int64} {rs : Int32} (h0 : S.2.2 0 = some (jdO dc dp dt rs)) {x : Int32} (hx : ¬ (¬ x < 0 ∧ x ≤ nI 5)) : kt_P l G yX11_seal mX11_seal (d + 9) [.ref 0, .int x] S (fun z S' => z = some (.int (nI 1)) ∧ S' = ks_one S) := by
  have h0 : S.2.2 0 = some (.inr (14, [.ref 1, .ref 3, .ref 5, .ref 7, .ref 14, .ref 20, .ref 27, .ref 41, .ref 52, .ref 53, .ref 54, .ref 55, .int (nI dc), .int (nI dp), .long dt, .int rs])) := h0
  refine kt_of htr (by decide) rfl rfl (Nat.le_of_ble_eq_true rfl) ?_
  show ks_Y l G mX11_seal (d + 9) 0 [(0, .ref 0), (1, .int x)] [] S _
  refine kt_iload_n dX11_seal_0 rfl rfl ?_
  refine kt_if_lt (tgt := 9) dX11_seal_1 (by decide) rfl (fun hc1 => ?_) (fun hc1 => ?_)
  · exact kt_throw (k := 1) (names := ["java/lang/RuntimeException", "java/lang/Exception"]) rfl (by decide +kernel) (by decide +kernel) tw_cl1 tw_in1 tw_at1 (by decide) (Nat.le_of_ble_eq_true rfl) hSB dX11_seal_9 dX11_seal_12 dX11_seal_13 dX11_seal_16 ⟨rfl, rfl⟩
  · refine kt_iload_n dX11_seal_4 rfl rfl ?_
    refine kt_iconst (x := nI 5) dX11_seal_5 (by decide) rfl ?_
    refine kt_icmp_le (tgt := 17) dX11_seal_6 (by decide) rfl (fun hc6 => ?_) (fun hc6 => ?_)
    · exact absurd ⟨hc1, hc6⟩ hx
    · exact kt_throw (k := 1) (names := ["java/lang/RuntimeException", "java/lang/Exception"]) rfl (by decide +kernel) (by decide +kernel) tw_cl1 tw_in1 tw_at1 (by decide) (Nat.le_of_ble_eq_true rfl) hSB dX11_seal_9 dX11_seal_12 dX11_seal_13 dX11_seal_16 ⟨rfl, rfl⟩
set_option maxRecDepth 100000 in
set_option maxHeartbeats 800000 in
theorem t_block {l : Launch} {G : ks_G} {d : Nat} {S : ks_S} (htr : l.stackTraces = false) (hSB : S.1 < ks_B) {dc dp : Nat} {dt : Int64} {rs : Int32} (h0 : S.2.2 0 = some (jdO dc dp dt rs)) {n best : Nat} {cc : Int32} {tk : Int64} {B : Nat → Bk} (hX : chX S n best cc tk B) {x y : Int32} (hx : ¬ (¬ x < 0 ∧ x < nI n)) : kt_P l G yX11_block mX11_block (d + 9) [.ref 0, .int x, .int y] S (fun z S' => z = some (.int (nI 1)) ∧ S' = ks_one S) := by
  have h0 : S.2.2 0 = some (.inr (14, [.ref 1, .ref 3, .ref 5, .ref 7, .ref 14, .ref 20, .ref 27, .ref 41, .ref 52, .ref 53, .ref 54, .ref 55, .int (nI dc), .int (nI dp), .long dt, .int rs])) := h0
  obtain ⟨hO, ⟨bf, h42, hbf⟩, hB, hn60⟩ := id hX
  refine kt_of htr (by decide) rfl rfl (Nat.le_of_ble_eq_true rfl) ?_
  show ks_Y l G mX11_block (d + 9) 0 [(0, .ref 0), (1, .int x), (2, .int y)] [] S _
  refine kt_iload_n dX11_block_0 rfl rfl ?_
  refine kt_if_lt (tgt := 15) dX11_block_1 (by decide) rfl (fun hc1 => ?_) (fun hc1 => ?_)
  · exact kt_throw (k := 1) (names := ["java/lang/RuntimeException", "java/lang/Exception"]) rfl (by decide +kernel) (by decide +kernel) tw_cl1 tw_in1 tw_at1 (by decide) (Nat.le_of_ble_eq_true rfl) hSB dX11_block_15 dX11_block_18 dX11_block_19 dX11_block_22 ⟨rfl, rfl⟩
  · refine kt_iload_n dX11_block_4 rfl rfl ?_
    refine kt_aload_n dX11_block_5 rfl rfl ?_
    refine kt_getf (T := TX11) (kf := 7) kx_1060 rfl in_X11 cl_X11 (by decide) h0 rfl dX11_block_6 rfl ?_
    refine kt_getf (T := TX2) (kf := 3) kx_736 rfl in_X2 cl_X2 (by decide) hO rfl dX11_block_9 rfl ?_
    refine kt_icmp_lt (tgt := 23) dX11_block_12 (by decide) rfl (fun hc12 => ?_) (fun hc12 => ?_)
    · exact absurd ⟨hc1, hc12⟩ hx
    · exact kt_throw (k := 1) (names := ["java/lang/RuntimeException", "java/lang/Exception"]) rfl (by decide +kernel) (by decide +kernel) tw_cl1 tw_in1 tw_at1 (by decide) (Nat.le_of_ble_eq_true rfl) hSB dX11_block_15 dX11_block_18 dX11_block_19 dX11_block_22 ⟨rfl, rfl⟩

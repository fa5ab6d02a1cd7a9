/-! THE JUDGE: the tape, the draft, what it tells -/
def wdL (x : Int32) : List Nat := numL (ks_rev x) 4
theorem wdL_len (x : Int32) : (wdL x).length = 4 := numL_len _ _
set_option maxRecDepth 100000 in
set_option maxHeartbeats 800000 in
theorem c_jd_feed {l : Launch} {G : ks_G} {d : Nat} {S : ks_S} {dc dp : Nat} {dt : Int64} {rs : Int32} (h0 : S.2.2 0 = some (jdO dc dp dt rs)) {T : List Nat} (hT : bfS S 1 2 1600 (some T)) {x1 x2 x3 x4 x5 : Int32} (hf : T.length + 20 ≤ 1600) : ks_P l G yX11_feed mX11_feed (d + 2) [.ref 0, .int x1, .int x2, .int x3, .int x4, .int x5] S (fun z S' => z = some (.int (nI (T.length + 20))) ∧ ks_up S S' [2, 1] ∧ bfS S' 1 2 1600 (some (T ++ wdL x1 ++ wdL x2 ++ wdL x3 ++ wdL x4 ++ wdL x5))) := by
  have h0 : S.2.2 0 = some (.inr (14, [.ref 1, .ref 3, .ref 5, .ref 7, .ref 14, .ref 20, .ref 27, .ref 41, .ref 52, .ref 53, .ref 54, .ref 55, .int (nI dc), .int (nI dp), .long dt, .int rs])) := h0
  obtain ⟨len, g, kg, hl16, e2, e1, ⟨hl, hg⟩⟩ := id hT
  refine ks_of (by decide) rfl rfl (Nat.le_of_ble_eq_true rfl) ?_
  show ks_X l G mX11_feed (d + 2) 0 [(0, .ref 0), (1, .int x1), (2, .int x2), (3, .int x3), (4, .int x4), (5, .int x5)] [] S _
  refine ks_aload_n dX11_feed_0 rfl rfl ?_
  refine ks_getf (T := TX11) (kf := 0) kx_1053 rfl in_X11 cl_X11 (by decide) h0 rfl dX11_feed_1 rfl ?_
  refine ks_getf (T := TX1) (kf := 1) kx_59 rfl in_X1 cl_X1 (by decide) e1 rfl dX11_feed_4 rfl ?_
  refine ks_bipush (x := nI 20) dX11_feed_7 (by decide) rfl ?_
  refine ks_addN dX11_feed_9 rfl ?_
  refine ks_sipush (x := nI 1600) dX11_feed_10 (by decide) rfl ?_
  refine ks_icmp_leN (tgt := 24) (by omega) (by decide) dX11_feed_13 (by decide) rfl (fun h1 => ?_) (fun h1 => absurd h1 (by omega))
  refine ks_aload_n dX11_feed_24 rfl rfl ?_
  refine ks_getf (T := TX11) (kf := 0) kx_1053 rfl in_X11 cl_X11 (by decide) h0 rfl dX11_feed_25 rfl ?_
  refine ks_iload_n dX11_feed_28 rfl rfl ?_
  refine ks_callV (n := 1) (M' := mX1_addHighFirst) (bf_high (d := d) (x := x1) hT (by decide)) e1 cl_X1 rfl kx_1144 kx_1145 kx_1146 kx_2 kx_1147 (by decide +kernel) rfl (by decide) (Nat.le_of_ble_eq_true rfl) rfl dX11_feed_29 rfl (fun z1 T1 y1 => ?_)
  obtain ⟨rfl, w1, B1⟩ := y1
  rw [show numL (ks_rev x1) 4 = wdL x1 from rfl, bfA_ok (by simp only [List.length_append, wdL_len]; omega)] at B1
  have a0_1 := w1.at h0 (by decide)
  obtain ⟨l1, g1, -, -, -, t1, ⟨q1, -⟩⟩ := id B1
  refine ks_aload_n dX11_feed_32 rfl rfl ?_
  refine ks_getf (T := TX11) (kf := 0) kx_1053 rfl in_X11 cl_X11 (by decide) a0_1 rfl dX11_feed_33 rfl ?_
  refine ks_iload_n dX11_feed_36 rfl rfl ?_
  refine ks_callV (n := 1) (M' := mX1_addHighFirst) (bf_high (d := d) (x := x2) B1 (by decide)) t1 cl_X1 rfl kx_1144 kx_1145 kx_1146 kx_2 kx_1147 (by decide +kernel) rfl (by decide) (Nat.le_of_ble_eq_true rfl) rfl dX11_feed_37 rfl (fun z2 T2 y2 => ?_)
  obtain ⟨rfl, w2, B2⟩ := y2
  rw [show numL (ks_rev x2) 4 = wdL x2 from rfl, bfA_ok (by simp only [List.length_append, wdL_len]; omega)] at B2
  have a0_2 := w2.at a0_1 (by decide)
  obtain ⟨l2, g2, -, -, -, t2, ⟨q2, -⟩⟩ := id B2
  refine ks_aload_n dX11_feed_40 rfl rfl ?_
  refine ks_getf (T := TX11) (kf := 0) kx_1053 rfl in_X11 cl_X11 (by decide) a0_2 rfl dX11_feed_41 rfl ?_
  refine ks_iload_n dX11_feed_44 rfl rfl ?_
  refine ks_callV (n := 1) (M' := mX1_addHighFirst) (bf_high (d := d) (x := x3) B2 (by decide)) t2 cl_X1 rfl kx_1144 kx_1145 kx_1146 kx_2 kx_1147 (by decide +kernel) rfl (by decide) (Nat.le_of_ble_eq_true rfl) rfl dX11_feed_45 rfl (fun z3 T3 y3 => ?_)
  obtain ⟨rfl, w3, B3⟩ := y3
  rw [show numL (ks_rev x3) 4 = wdL x3 from rfl, bfA_ok (by simp only [List.length_append, wdL_len]; omega)] at B3
  have a0_3 := w3.at a0_2 (by decide)
  obtain ⟨l3, g3, -, -, -, t3, ⟨q3, -⟩⟩ := id B3
  refine ks_aload_n dX11_feed_48 rfl rfl ?_
  refine ks_getf (T := TX11) (kf := 0) kx_1053 rfl in_X11 cl_X11 (by decide) a0_3 rfl dX11_feed_49 rfl ?_
  refine ks_iload dX11_feed_52 rfl rfl ?_
  refine ks_callV (n := 1) (M' := mX1_addHighFirst) (bf_high (d := d) (x := x4) B3 (by decide)) t3 cl_X1 rfl kx_1144 kx_1145 kx_1146 kx_2 kx_1147 (by decide +kernel) rfl (by decide) (Nat.le_of_ble_eq_true rfl) rfl dX11_feed_54 rfl (fun z4 T4 y4 => ?_)
  obtain ⟨rfl, w4, B4⟩ := y4
  rw [show numL (ks_rev x4) 4 = wdL x4 from rfl, bfA_ok (by simp only [List.length_append, wdL_len]; omega)] at B4
  have a0_4 := w4.at a0_3 (by decide)
  obtain ⟨l4, g4, -, -, -, t4, ⟨q4, -⟩⟩ := id B4
  refine ks_aload_n dX11_feed_57 rfl rfl ?_
  refine ks_getf (T := TX11) (kf := 0) kx_1053 rfl in_X11 cl_X11 (by decide) a0_4 rfl dX11_feed_58 rfl ?_
  refine ks_iload dX11_feed_61 rfl rfl ?_
  refine ks_callV (n := 1) (M' := mX1_addHighFirst) (bf_high (d := d) (x := x5) B4 (by decide)) t4 cl_X1 rfl kx_1144 kx_1145 kx_1146 kx_2 kx_1147 (by decide +kernel) rfl (by decide) (Nat.le_of_ble_eq_true rfl) rfl dX11_feed_63 rfl (fun z5 T5 y5 => ?_)
  obtain ⟨rfl, w5, B5⟩ := y5
  rw [show numL (ks_rev x5) 4 = wdL x5 from rfl, bfA_ok (by simp only [List.length_append, wdL_len]; omega)] at B5
  have a0_5 := w5.at a0_4 (by decide)
  obtain ⟨l5, g5, -, -, -, t5, ⟨q5, -⟩⟩ := id B5
  refine ks_aload_n dX11_feed_66 rfl rfl ?_
  refine ks_getf (T := TX11) (kf := 0) kx_1053 rfl in_X11 cl_X11 (by decide) a0_5 rfl dX11_feed_67 rfl ?_
  refine ks_getf (T := TX1) (kf := 1) kx_59 rfl in_X1 cl_X1 (by decide) t5 rfl dX11_feed_70 rfl ?_
  refine ks_iret rfl dX11_feed_73 ?_
  have e9 : l5 = T.length + 20 := by rw [← q5]; simp only [List.length_append, wdL_len]
  rw [e9]
  exact ⟨rfl, (((w1.trans w2).trans w3).trans w4).trans w5, B5⟩
set_option maxRecDepth 100000 in
set_option maxHeartbeats 800000 in
theorem c_jd_end {l : Launch} {G : ks_G} {d : Nat} {S : ks_S} {dc dp : Nat} {dt : Int64} {rs : Int32} (h0 : S.2.2 0 = some (jdO dc dp dt rs)) {T : List Nat} (hT : bfS S 1 2 1600 (some T)) {k : Nat} (hk : k ≤ T.length) : ks_P l G yX11_end mX11_end d [.ref 0, .int (nI k)] S (fun z S' => z = some (.int (nI k)) ∧ ks_up S S' [2, 1] ∧ bfS S' 1 2 1600 (some (T.take k))) := by
  have h0 : S.2.2 0 = some (.inr (14, [.ref 1, .ref 3, .ref 5, .ref 7, .ref 14, .ref 20, .ref 27, .ref 41, .ref 52, .ref 53, .ref 54, .ref 55, .int (nI dc), .int (nI dp), .long dt, .int rs])) := h0
  obtain ⟨len, g, kg, hl16, e2, e1, ⟨hl, hg⟩⟩ := id hT
  refine ks_of (by decide) rfl rfl (Nat.le_of_ble_eq_true rfl) ?_
  show ks_X l G mX11_end d 0 [(0, .ref 0), (1, .int (nI k))] [] S _
  refine ks_iload_n dX11_end_0 rfl rfl ?_
  refine ks_if_ltN (tgt := 15) (by omega) dX11_end_1 (by decide) rfl ?_
  refine ks_iload_n dX11_end_4 rfl rfl ?_
  refine ks_aload_n dX11_end_5 rfl rfl ?_
  refine ks_getf (T := TX11) (kf := 0) kx_1053 rfl in_X11 cl_X11 (by decide) h0 rfl dX11_end_6 rfl ?_
  refine ks_getf (T := TX1) (kf := 1) kx_59 rfl in_X1 cl_X1 (by decide) e1 rfl dX11_end_9 rfl ?_
  refine ks_icmp_leN (tgt := 23) (by omega) (by omega) dX11_end_12 (by decide) rfl (fun h1 => ?_) (fun h1 => absurd h1 (by omega))
  refine ks_aload_n dX11_end_23 rfl rfl ?_
  refine ks_getf (T := TX11) (kf := 0) kx_1053 rfl in_X11 cl_X11 (by decide) h0 rfl dX11_end_24 rfl ?_
  refine ks_iload_n dX11_end_27 rfl rfl ?_
  refine ks_putf (T := TX1) (kf := 1) kx_59 rfl in_X1 tyX1_ok nmX1 cl_X1 (by decide) e1 (Nat.le_of_ble_eq_true rfl) rfl rfl rfl rfl dX11_end_28 rfl ?_
  refine ks_iload_n dX11_end_31 rfl rfl ?_
  refine ks_iret rfl dX11_end_32 ?_
  refine ⟨rfl, ks_up_set _ _ (by decide), k, g, kg, by omega, (ks_set_ne _ _ (by decide)).trans e2, ks_set_same _ _ _, ?_, fun j hj => ?_⟩
  · rw [List.length_take]; omega
  · rw [hg j (by omega)]; simp [List.getD, List.getElem?_take, hj]
set_option maxRecDepth 100000 in
set_option maxHeartbeats 800000 in
theorem c_jd_patch {l : Launch} {G : ks_G} {d : Nat} {S : ks_S} {dc dp : Nat} {dt : Int64} {rs : Int32} (h0 : S.2.2 0 = some (jdO dc dp dt rs)) {T : List Nat} (hT : bfS S 1 2 1600 (some T)) {k : Nat} {v : Int32} (hk : k < T.length) : ks_P l G yX11_patch mX11_patch d [.ref 0, .int (nI k), .int v] S (fun z S' => z = some (.int (nI (mg T k))) ∧ ks_up S S' [2, 1] ∧ bfS S' 1 2 1600 (some (T.set k (ks_by v)))) := by
  have h0 : S.2.2 0 = some (.inr (14, [.ref 1, .ref 3, .ref 5, .ref 7, .ref 14, .ref 20, .ref 27, .ref 41, .ref 52, .ref 53, .ref 54, .ref 55, .int (nI dc), .int (nI dp), .long dt, .int rs])) := h0
  obtain ⟨len, g, kg, hl16, e2, e1, ⟨hl, hg⟩⟩ := id hT
  refine ks_of (by decide) rfl rfl (Nat.le_of_ble_eq_true rfl) ?_
  show ks_X l G mX11_patch d 0 [(0, .ref 0), (1, .int (nI k)), (2, .int v)] [] S _
  refine ks_iload_n dX11_patch_0 rfl rfl ?_
  refine ks_if_ltN (tgt := 15) (by omega) dX11_patch_1 (by decide) rfl ?_
  refine ks_iload_n dX11_patch_4 rfl rfl ?_
  refine ks_aload_n dX11_patch_5 rfl rfl ?_
  refine ks_getf (T := TX11) (kf := 0) kx_1053 rfl in_X11 cl_X11 (by decide) h0 rfl dX11_patch_6 rfl ?_
  refine ks_getf (T := TX1) (kf := 1) kx_59 rfl in_X1 cl_X1 (by decide) e1 rfl dX11_patch_9 rfl ?_
  refine ks_icmp_ltN (tgt := 23) (by omega) (by omega) dX11_patch_12 (by decide) rfl (fun h1 => ?_) (fun h1 => absurd h1 (by omega))
  refine ks_aload_n dX11_patch_23 rfl rfl ?_
  refine ks_getf (T := TX11) (kf := 0) kx_1053 rfl in_X11 cl_X11 (by decide) h0 rfl dX11_patch_24 rfl ?_
  refine ks_getf (T := TX1) (kf := 0) kx_54 rfl in_X1 cl_X1 (by decide) e1 rfl dX11_patch_27 rfl ?_
  refine ks_iload_n dX11_patch_30 rfl rfl ?_
  refine ks_baldB (i := k) e2 rfl (by omega) (by decide) dX11_patch_31 rfl ?_
  refine ks_sipush (x := nI 255) dX11_patch_32 (by decide) rfl ?_
  refine ks_andB (kg _) dX11_patch_35 rfl ?_
  have hy35 : g k < 256 := (kg _)
  refine ks_istore_n dX11_patch_36 (by decide) rfl ?_
  refine ks_sub [(3, _), (0, _), (1, _), (2, _)] rfl ?_
  refine ks_aload_n dX11_patch_37 rfl rfl ?_
  refine ks_getf (T := TX11) (kf := 0) kx_1053 rfl in_X11 cl_X11 (by decide) h0 rfl dX11_patch_38 rfl ?_
  refine ks_getf (T := TX1) (kf := 0) kx_54 rfl in_X1 cl_X1 (by decide) e1 rfl dX11_patch_41 rfl ?_
  refine ks_iload_n dX11_patch_44 rfl rfl ?_
  refine ks_iload_n dX11_patch_45 rfl rfl ?_
  refine ks_i2b dX11_patch_46 rfl ?_
  refine ks_bastB (i := k) (c := (ks_by v)) e2 rfl (by omega) (by decide) (ks_by_i8 _) dX11_patch_47 rfl ?_
  refine ks_iload_n dX11_patch_48 rfl rfl ?_
  refine ks_iret rfl dX11_patch_49 ?_
  rw [hg k (by omega)]
  refine ⟨rfl, ks_up_set _ _ (by decide), len, va_up g k (ks_by v), kO_up kg (ks_by_lt v), hl16, ks_set_same _ _ _, (ks_set_ne _ _ (by decide)).trans e1, by rw [List.length_set]; exact hl, fun j hj => ?_⟩
  by_cases e : j = k
  · subst e; rw [va_up_self]; simp [List.getD, hk]
  · rw [va_up_ne _ _ e, hg j hj]; simp [List.getD, List.getElem?_set, Ne.symm e]
def unL (v : Int64) : Bool := decide (v < lN 0 ∨ lN 4294967295 < v)
set_option maxRecDepth 100000 in
set_option maxHeartbeats 800000 in
theorem c_jd_unsigned {l : Launch} {G : ks_G} {d : Nat} {S : ks_S} {v : Int64} : ks_P l G yX11_isNotUnsigned mX11_isNotUnsigned d [.long v] S (fun z S' => z = some (.int (ks_bo (unL v))) ∧ S' = S) := by
  refine ks_of (by decide) rfl rfl (Nat.le_of_ble_eq_true rfl) ?_
  show ks_X l G mX11_isNotUnsigned d 0 [(0, .long v)] [] S _
  refine ks_lload_n dX11_isNotUnsigned_0 rfl rfl ?_
  refine ks_lconst (x := lN 0) dX11_isNotUnsigned_1 (by decide) rfl ?_
  refine ks_lif_lt (tgt := 14) dX11_isNotUnsigned_2 rfl dX11_isNotUnsigned_3 (by decide) rfl (fun h1 => ?_) (fun h1 => ?_)
  · refine ks_iconst (x := nI 1) dX11_isNotUnsigned_14 (by decide) rfl ?_
    refine ks_goto (tgt := 19) dX11_isNotUnsigned_15 (by decide) ?_
    refine ks_zret rfl rfl dX11_isNotUnsigned_19 ?_
    refine ⟨congrArg some (congrArg Value.int ?_), rfl⟩
    rw [show unL v = true from decide_eq_true (Or.inl h1)]
    rfl
  · refine ks_lload_n dX11_isNotUnsigned_6 rfl rfl ?_
    refine ks_ldc2 dX11_isNotUnsigned_7 kx_832 rfl ?_
    refine ks_tl (y := lN 4294967295) rfl ?_
    refine ks_lif_le (tgt := 18) dX11_isNotUnsigned_10 rfl dX11_isNotUnsigned_11 (by decide) rfl (fun h2 => ?_) (fun h2 => ?_)
    · refine ks_iconst (x := nI 0) dX11_isNotUnsigned_18 (by decide) rfl ?_
      refine ks_zret rfl rfl dX11_isNotUnsigned_19 ?_
      refine ⟨congrArg some (congrArg Value.int ?_), rfl⟩
      rw [show unL v = false from decide_eq_false (fun h => h.elim h1 (fun h3 => absurd h2 (Int64.not_le.mpr h3)))]
      rfl
    · refine ks_iconst (x := nI 1) dX11_isNotUnsigned_14 (by decide) rfl ?_
      refine ks_goto (tgt := 19) dX11_isNotUnsigned_15 (by decide) ?_
      refine ks_zret rfl rfl dX11_isNotUnsigned_19 ?_
      refine ⟨congrArg some (congrArg Value.int ?_), rfl⟩
      rw [show unL v = true from decide_eq_true (Or.inr (Int64.not_le.mp h2))]
      rfl
set_option maxRecDepth 100000 in
set_option maxHeartbeats 800000 in
theorem c_jd_tell0 {l : Launch} {G : ks_G} {d : Nat} {S : ks_S} {dc dp : Nat} {dt : Int64} {rs : Int32} (h0 : S.2.2 0 = some (jdO dc dp dt rs)) {T : List Nat} (hT : bfS S 1 2 1600 (some T)) {n best : Nat} {cc : Int32} {tk : Int64} {B : Nat → Bk} (hX : chX S n best cc tk B) (hbe : best < n) : ks_P l G yX11_tell mX11_tell d [.ref 0, .int (nI 0)] S (fun z S' => z = some (.int (nI T.length)) ∧ S' = S) := by
  have h0 : S.2.2 0 = some (.inr (14, [.ref 1, .ref 3, .ref 5, .ref 7, .ref 14, .ref 20, .ref 27, .ref 41, .ref 52, .ref 53, .ref 54, .ref 55, .int (nI dc), .int (nI dp), .long dt, .int rs])) := h0
  obtain ⟨len, g, kg, hl16, e2, e1, ⟨hl, hg⟩⟩ := id hT
  obtain ⟨hO, ⟨bf, h42, hbf⟩, hB, hn60⟩ := id hX
  refine ks_of (by decide) rfl rfl (Nat.le_of_ble_eq_true rfl) ?_
  show ks_X l G mX11_tell d 0 [(0, .ref 0), (1, .int (nI 0))] [] S _
  refine ks_iload_n dX11_tell_0 rfl rfl ?_
  refine ks_tableIn (off := 43) (tgt := 44) dX11_tell_1 (by decide) (by decide) (by decide) (by decide) ?_
  refine ks_aload_n dX11_tell_44 rfl rfl ?_
  refine ks_getf (T := TX11) (kf := 0) kx_1053 rfl in_X11 cl_X11 (by decide) h0 rfl dX11_tell_45 rfl ?_
  refine ks_getf (T := TX1) (kf := 1) kx_59 rfl in_X1 cl_X1 (by decide) e1 rfl dX11_tell_48 rfl ?_
  refine ks_iret rfl dX11_tell_51 ?_
  exact ⟨by rw [hl], rfl⟩
set_option maxRecDepth 100000 in
set_option maxHeartbeats 800000 in
theorem c_jd_tell1 {l : Launch} {G : ks_G} {d : Nat} {S : ks_S} {dc dp : Nat} {dt : Int64} {rs : Int32} (h0 : S.2.2 0 = some (jdO dc dp dt rs)) {T : List Nat} (hT : bfS S 1 2 1600 (some T)) {n best : Nat} {cc : Int32} {tk : Int64} {B : Nat → Bk} (hX : chX S n best cc tk B) (hbe : best < n) : ks_P l G yX11_tell mX11_tell d [.ref 0, .int (nI 1)] S (fun z S' => z = some (.int (rs)) ∧ S' = S) := by
  have h0 : S.2.2 0 = some (.inr (14, [.ref 1, .ref 3, .ref 5, .ref 7, .ref 14, .ref 20, .ref 27, .ref 41, .ref 52, .ref 53, .ref 54, .ref 55, .int (nI dc), .int (nI dp), .long dt, .int rs])) := h0
  obtain ⟨len, g, kg, hl16, e2, e1, ⟨hl, hg⟩⟩ := id hT
  obtain ⟨hO, ⟨bf, h42, hbf⟩, hB, hn60⟩ := id hX
  refine ks_of (by decide) rfl rfl (Nat.le_of_ble_eq_true rfl) ?_
  show ks_X l G mX11_tell d 0 [(0, .ref 0), (1, .int (nI 1))] [] S _
  refine ks_iload_n dX11_tell_0 rfl rfl ?_
  refine ks_tableIn (off := 51) (tgt := 52) dX11_tell_1 (by decide) (by decide) (by decide) (by decide) ?_
  refine ks_aload_n dX11_tell_52 rfl rfl ?_
  refine ks_getf (T := TX11) (kf := 15) kx_1068 rfl in_X11 cl_X11 (by decide) h0 rfl dX11_tell_53 rfl ?_
  refine ks_iret rfl dX11_tell_56 ?_
  exact ⟨rfl, rfl⟩
set_option maxRecDepth 100000 in
set_option maxHeartbeats 800000 in
theorem c_jd_tell2 {l : Launch} {G : ks_G} {d : Nat} {S : ks_S} {dc dp : Nat} {dt : Int64} {rs : Int32} (h0 : S.2.2 0 = some (jdO dc dp dt rs)) {T : List Nat} (hT : bfS S 1 2 1600 (some T)) {n best : Nat} {cc : Int32} {tk : Int64} {B : Nat → Bk} (hX : chX S n best cc tk B) (hbe : best < n) : ks_P l G yX11_tell mX11_tell d [.ref 0, .int (nI 2)] S (fun z S' => z = some (.int (nI n)) ∧ S' = S) := by
  have h0 : S.2.2 0 = some (.inr (14, [.ref 1, .ref 3, .ref 5, .ref 7, .ref 14, .ref 20, .ref 27, .ref 41, .ref 52, .ref 53, .ref 54, .ref 55, .int (nI dc), .int (nI dp), .long dt, .int rs])) := h0
  obtain ⟨len, g, kg, hl16, e2, e1, ⟨hl, hg⟩⟩ := id hT
  obtain ⟨hO, ⟨bf, h42, hbf⟩, hB, hn60⟩ := id hX
  refine ks_of (by decide) rfl rfl (Nat.le_of_ble_eq_true rfl) ?_
  show ks_X l G mX11_tell d 0 [(0, .ref 0), (1, .int (nI 2))] [] S _
  refine ks_iload_n dX11_tell_0 rfl rfl ?_
  refine ks_tableIn (off := 56) (tgt := 57) dX11_tell_1 (by decide) (by decide) (by decide) (by decide) ?_
  refine ks_aload_n dX11_tell_57 rfl rfl ?_
  refine ks_getf (T := TX11) (kf := 7) kx_1060 rfl in_X11 cl_X11 (by decide) h0 rfl dX11_tell_58 rfl ?_
  refine ks_getf (T := TX2) (kf := 3) kx_736 rfl in_X2 cl_X2 (by decide) hO rfl dX11_tell_61 rfl ?_
  refine ks_iret rfl dX11_tell_64 ?_
  exact ⟨rfl, rfl⟩
set_option maxRecDepth 100000 in
set_option maxHeartbeats 800000 in
theorem c_jd_tell3 {l : Launch} {G : ks_G} {d : Nat} {S : ks_S} {dc dp : Nat} {dt : Int64} {rs : Int32} (h0 : S.2.2 0 = some (jdO dc dp dt rs)) {T : List Nat} (hT : bfS S 1 2 1600 (some T)) {n best : Nat} {cc : Int32} {tk : Int64} {B : Nat → Bk} (hX : chX S n best cc tk B) (hbe : best < n) : ks_P l G yX11_tell mX11_tell d [.ref 0, .int (nI 3)] S (fun z S' => z = some (.int (nI best)) ∧ S' = S) := by
  have h0 : S.2.2 0 = some (.inr (14, [.ref 1, .ref 3, .ref 5, .ref 7, .ref 14, .ref 20, .ref 27, .ref 41, .ref 52, .ref 53, .ref 54, .ref 55, .int (nI dc), .int (nI dp), .long dt, .int rs])) := h0
  obtain ⟨len, g, kg, hl16, e2, e1, ⟨hl, hg⟩⟩ := id hT
  obtain ⟨hO, ⟨bf, h42, hbf⟩, hB, hn60⟩ := id hX
  refine ks_of (by decide) rfl rfl (Nat.le_of_ble_eq_true rfl) ?_
  show ks_X l G mX11_tell d 0 [(0, .ref 0), (1, .int (nI 3))] [] S _
  refine ks_iload_n dX11_tell_0 rfl rfl ?_
  refine ks_tableIn (off := 64) (tgt := 65) dX11_tell_1 (by decide) (by decide) (by decide) (by decide) ?_
  refine ks_aload_n dX11_tell_65 rfl rfl ?_
  refine ks_getf (T := TX11) (kf := 7) kx_1060 rfl in_X11 cl_X11 (by decide) h0 rfl dX11_tell_66 rfl ?_
  refine ks_getf (T := TX2) (kf := 4) kx_737 rfl in_X2 cl_X2 (by decide) hO rfl dX11_tell_69 rfl ?_
  refine ks_iret rfl dX11_tell_72 ?_
  exact ⟨rfl, rfl⟩
set_option maxRecDepth 100000 in
set_option maxHeartbeats 800000 in
theorem c_jd_tell4 {l : Launch} {G : ks_G} {d : Nat} {S : ks_S} {dc dp : Nat} {dt : Int64} {rs : Int32} (h0 : S.2.2 0 = some (jdO dc dp dt rs)) {T : List Nat} (hT : bfS S 1 2 1600 (some T)) {n best : Nat} {cc : Int32} {tk : Int64} {B : Nat → Bk} (hX : chX S n best cc tk B) (hbe : best < n) : ks_P l G yX11_tell mX11_tell d [.ref 0, .int (nI 4)] S (fun z S' => z = some (.int (nI (bkH (B best)))) ∧ S' = S) := by
  have h0 : S.2.2 0 = some (.inr (14, [.ref 1, .ref 3, .ref 5, .ref 7, .ref 14, .ref 20, .ref 27, .ref 41, .ref 52, .ref 53, .ref 54, .ref 55, .int (nI dc), .int (nI dp), .long dt, .int rs])) := h0
  obtain ⟨len, g, kg, hl16, e2, e1, ⟨hl, hg⟩⟩ := id hT
  obtain ⟨hO, ⟨bf, h42, hbf⟩, hB, hn60⟩ := id hX
  obtain ⟨g1x, f2x, g3x, g4x, ox, lex, egx, blx, stx, idx, hsx, cox⟩ := hB best (by omega)
  refine ks_of (by decide) rfl rfl (Nat.le_of_ble_eq_true rfl) ?_
  show ks_X l G mX11_tell d 0 [(0, .ref 0), (1, .int (nI 4))] [] S _
  refine ks_iload_n dX11_tell_0 rfl rfl ?_
  refine ks_tableIn (off := 72) (tgt := 73) dX11_tell_1 (by decide) (by decide) (by decide) (by decide) ?_
  refine ks_aload_n dX11_tell_73 rfl rfl ?_
  refine ks_getf (T := TX11) (kf := 7) kx_1060 rfl in_X11 cl_X11 (by decide) h0 rfl dX11_tell_74 rfl ?_
  refine ks_getf (T := TX2) (kf := 0) kx_730 rfl in_X2 cl_X2 (by decide) hO rfl dX11_tell_77 rfl ?_
  refine ks_aload_n dX11_tell_80 rfl rfl ?_
  refine ks_getf (T := TX11) (kf := 7) kx_1060 rfl in_X11 cl_X11 (by decide) h0 rfl dX11_tell_81 rfl ?_
  refine ks_getf (T := TX2) (kf := 4) kx_737 rfl in_X2 cl_X2 (by decide) hO rfl dX11_tell_84 rfl ?_
  refine ks_aaldN (i := best) (b := (bkN (B best))) (by decide) h42 rfl (by omega) (by decide) (hbf best (by omega)) dX11_tell_87 rfl ?_
  refine ks_getf (T := TX0) (kf := 7) kx_955 rfl in_X0 cl_X0 (by decide) ox.1 rfl dX11_tell_88 rfl ?_
  refine ks_iret rfl dX11_tell_91 ?_
  exact ⟨rfl, rfl⟩
set_option maxRecDepth 100000 in
set_option maxHeartbeats 800000 in
theorem c_jd_tell5 {l : Launch} {G : ks_G} {d : Nat} {S : ks_S} {dc dp : Nat} {dt : Int64} {rs : Int32} (h0 : S.2.2 0 = some (jdO dc dp dt rs)) {T : List Nat} (hT : bfS S 1 2 1600 (some T)) {n best : Nat} {cc : Int32} {tk : Int64} {B : Nat → Bk} (hX : chX S n best cc tk B) (hbe : best < n) {r : Nat} {L : List Nat} (hc : bkC (B best) = some (r, L)) : ks_P l G yX11_tell mX11_tell d [.ref 0, .int (nI 5)] S (fun z S' => z = some (.int (nI L.length)) ∧ S' = S) := by
  have h0 : S.2.2 0 = some (.inr (14, [.ref 1, .ref 3, .ref 5, .ref 7, .ref 14, .ref 20, .ref 27, .ref 41, .ref 52, .ref 53, .ref 54, .ref 55, .int (nI dc), .int (nI dp), .long dt, .int rs])) := h0
  obtain ⟨len, g, kg, hl16, e2, e1, ⟨hl, hg⟩⟩ := id hT
  obtain ⟨hO, ⟨bf, h42, hbf⟩, hB, hn60⟩ := id hX
  obtain ⟨g1x, f2x, g3x, g4x, ox, lex, egx, blx, stx, idx, hsx, cox⟩ := hB best (by omega)
  have hcr := (cox _ hc).1
  rw [hc] at ox
  refine ks_of (by decide) rfl rfl (Nat.le_of_ble_eq_true rfl) ?_
  show ks_X l G mX11_tell d 0 [(0, .ref 0), (1, .int (nI 5))] [] S _
  refine ks_iload_n dX11_tell_0 rfl rfl ?_
  refine ks_tableIn (off := 91) (tgt := 92) dX11_tell_1 (by decide) (by decide) (by decide) (by decide) ?_
  refine ks_aload_n dX11_tell_92 rfl rfl ?_
  refine ks_getf (T := TX11) (kf := 7) kx_1060 rfl in_X11 cl_X11 (by decide) h0 rfl dX11_tell_93 rfl ?_
  refine ks_getf (T := TX2) (kf := 0) kx_730 rfl in_X2 cl_X2 (by decide) hO rfl dX11_tell_96 rfl ?_
  refine ks_aload_n dX11_tell_99 rfl rfl ?_
  refine ks_getf (T := TX11) (kf := 7) kx_1060 rfl in_X11 cl_X11 (by decide) h0 rfl dX11_tell_100 rfl ?_
  refine ks_getf (T := TX2) (kf := 4) kx_737 rfl in_X2 cl_X2 (by decide) hO rfl dX11_tell_103 rfl ?_
  refine ks_aaldN (i := best) (b := (bkN (B best))) (by decide) h42 rfl (by omega) (by decide) (hbf best (by omega)) dX11_tell_106 rfl ?_
  refine ks_getf (T := TX0) (kf := 10) kx_960 rfl in_X0 cl_X0 (by decide) ox.1 rfl dX11_tell_107 rfl ?_
  refine ks_alen (by decide) hcr rfl (cox _ hc).2.1 dX11_tell_110 rfl ?_
  refine ks_ti (y := nI L.length) rfl ?_
  refine ks_iret rfl dX11_tell_111 ?_
  exact ⟨rfl, rfl⟩
set_option maxRecDepth 100000 in
set_option maxHeartbeats 800000 in
theorem c_jd_tell6 {l : Launch} {G : ks_G} {d : Nat} {S : ks_S} {dc dp : Nat} {dt : Int64} {rs : Int32} (h0 : S.2.2 0 = some (jdO dc dp dt rs)) {T : List Nat} (hT : bfS S 1 2 1600 (some T)) {n best : Nat} {cc : Int32} {tk : Int64} {B : Nat → Bk} (hX : chX S n best cc tk B) (hbe : best < n) : ks_P l G yX11_tell mX11_tell d [.ref 0, .int (nI 6)] S (fun z S' => z = some (.int (nI dc)) ∧ S' = S) := by
  have h0 : S.2.2 0 = some (.inr (14, [.ref 1, .ref 3, .ref 5, .ref 7, .ref 14, .ref 20, .ref 27, .ref 41, .ref 52, .ref 53, .ref 54, .ref 55, .int (nI dc), .int (nI dp), .long dt, .int rs])) := h0
  obtain ⟨len, g, kg, hl16, e2, e1, ⟨hl, hg⟩⟩ := id hT
  obtain ⟨hO, ⟨bf, h42, hbf⟩, hB, hn60⟩ := id hX
  refine ks_of (by decide) rfl rfl (Nat.le_of_ble_eq_true rfl) ?_
  show ks_X l G mX11_tell d 0 [(0, .ref 0), (1, .int (nI 6))] [] S _
  refine ks_iload_n dX11_tell_0 rfl rfl ?_
  refine ks_tableIn (off := 111) (tgt := 112) dX11_tell_1 (by decide) (by decide) (by decide) (by decide) ?_
  refine ks_aload_n dX11_tell_112 rfl rfl ?_
  refine ks_getf (T := TX11) (kf := 12) kx_1065 rfl in_X11 cl_X11 (by decide) h0 rfl dX11_tell_113 rfl ?_
  refine ks_iret rfl dX11_tell_116 ?_
  exact ⟨rfl, rfl⟩

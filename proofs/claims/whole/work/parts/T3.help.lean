/-! THE LAW'S HELPERS -/
set_option maxRecDepth 100000 in
set_option maxHeartbeats 800000 in
theorem hl_feed_ok {l : Launch} {G : ks_G} {d : Nat} {S : ks_S} (htr : l.stackTraces = false) {o : Nat} {x1 : Int32} {x2 : Int32} {x3 : Int32} {x4 : Int32} {x5 : Int32} {fs : List Value} {P1 : Option Value → ks_S → Prop} (h0 : S.2.2 0 = some (.inr (14, fs))) (hM : ks_P l G yX11_feed mX11_feed d [.ref 0, .int x1, .int x2, .int x3, .int x4, .int x5] S P1) (hz : ∀ z S1, P1 z S1 → ∃ (v : Int32) (f : Nat → Int64), z = some (.int v) ∧ S1.2.2 o = some (kJ 1 f)) : kl_P l G yL_feed mL_feed hL_feed (d + 1) [.ref 0, .int x1, .int x2, .int x3, .int x4, .int x5, .ref o] S (fun z S' => z = some (.int (nI 0)) ∧ ∃ (v : Int32) (S1 : ks_S) (f : Nat → Int64), P1 (some (.int v)) S1 ∧ S1.2.2 o = some (kJ 1 f) ∧ S' = ks_set S1 o (kJ 1 (va_up f 0 v.toInt64))) := by
  refine kl_of htr (by decide) rfl rfl (Nat.le_of_ble_eq_true rfl) ?_
  show ks_L l G (hL_feed, 0, fun _ => 0) mL_feed (d + 1) 0 [(0, .ref 0), (1, .int x1), (2, .int x2), (3, .int x3), (4, .int x4), (5, .int x5), (6, .ref o)] [] S _
  refine kl_aload dL_feed_0 rfl rfl ?_
  refine kl_iconst (x := nI 0) dL_feed_2 (by decide) rfl ?_
  refine kl_aload_n dL_feed_3 rfl rfl ?_
  refine kl_iload_n dL_feed_4 rfl rfl ?_
  refine kl_iload_n dL_feed_5 rfl rfl ?_
  refine kl_iload_n dL_feed_6 rfl rfl ?_
  refine kl_iload dL_feed_7 rfl rfl ?_
  refine kl_iload dL_feed_9 rfl rfl ?_
  refine kl_callV (n := 5) (M' := mX11_feed) hM h0 cl_X11 rfl kx_1119 kx_1120 kx_1121 kx_1 kx_1122 (by decide +kernel) rfl (by decide) (Nat.le_of_ble_eq_true rfl) rfl dL_feed_11 rfl (fun z1 S1 y1 => ?_)
  obtain ⟨v, f, rfl, e1⟩ := hz z1 S1 y1
  refine kl_i2l dL_feed_14 rfl ?_
  refine kl_lastN (i := 0) e1 rfl (by decide) (by decide) dL_feed_15 rfl ?_
  refine kl_goto (tgt := 23) dL_feed_16 (by decide) ?_
  refine kl_iconst (x := nI 0) dL_feed_23 (by decide) rfl ?_
  refine ks_X.law (ks_iret rfl dL_feed_24 ?_)
  exact ⟨rfl, v, S1, f, y1, e1, rfl⟩
set_option maxRecDepth 100000 in
set_option maxHeartbeats 800000 in
theorem hl_feed_no0 {l : Launch} {G : ks_G} {d : Nat} {S : ks_S} (htr : l.stackTraces = false) {o : Nat} {x1 : Int32} {x2 : Int32} {x3 : Int32} {x4 : Int32} {x5 : Int32} {fs : List Value} {P1 : Option Value → ks_S → Prop} (h0 : S.2.2 0 = some (.inr (14, fs))) (hM : kt_P l G yX11_feed mX11_feed d [.ref 0, .int x1, .int x2, .int x3, .int x4, .int x5] S P1) (hk : ∀ z S1, P1 z S1 → z = some (.int (nI 0))) : kl_P l G yL_feed mL_feed hL_feed (d + 1) [.ref 0, .int x1, .int x2, .int x3, .int x4, .int x5, .ref o] S (fun z S' => z = some (.int (nI 1)) ∧ ∃ z1, P1 z1 S') := by
  refine kl_of htr (by decide) rfl rfl (Nat.le_of_ble_eq_true rfl) ?_
  show ks_L l G (hL_feed, 0, fun _ => 0) mL_feed (d + 1) 0 [(0, .ref 0), (1, .int x1), (2, .int x2), (3, .int x3), (4, .int x4), (5, .int x5), (6, .ref o)] [] S _
  refine kl_aload dL_feed_0 rfl rfl ?_
  refine kl_iconst (x := nI 0) dL_feed_2 (by decide) rfl ?_
  refine kl_aload_n dL_feed_3 rfl rfl ?_
  refine kl_iload_n dL_feed_4 rfl rfl ?_
  refine kl_iload_n dL_feed_5 rfl rfl ?_
  refine kl_iload_n dL_feed_6 rfl rfl ?_
  refine kl_iload dL_feed_7 rfl rfl ?_
  refine kl_iload dL_feed_9 rfl rfl ?_
  refine kl_catchV (n := 5) (M' := mX11_feed) (k9 := 0) (E := "java/lang/IndexOutOfBoundsException") [] ⟨0, 16, 19, 13⟩ [] hM hk rfl h0 cl_X11 rfl kx_1119 kx_1120 kx_1121 kx_1 kx_1122 (by decide +kernel) rfl (by decide) (Nat.le_of_ble_eq_true rfl) rfl dL_feed_11 rfl (fun z hz => by cases hz) rfl (by decide) kx_1118 kx_1125 (kl_as dL_feed_19 (by decide) rfl) (fun v1 S1 y1 => ?_)
  refine kl_iconst (x := nI 1) dL_feed_21 (by decide) rfl ?_
  refine ks_X.law (ks_iret rfl dL_feed_22 ?_)
  exact ⟨rfl, v1, y1⟩
set_option maxRecDepth 100000 in
set_option maxHeartbeats 800000 in
theorem hl_end_ok {l : Launch} {G : ks_G} {d : Nat} {S : ks_S} (htr : l.stackTraces = false) {o : Nat} {x1 : Int32} {fs : List Value} {P1 : Option Value → ks_S → Prop} (h0 : S.2.2 0 = some (.inr (14, fs))) (hM : ks_P l G yX11_end mX11_end d [.ref 0, .int x1] S P1) (hz : ∀ z S1, P1 z S1 → ∃ (v : Int32) (f : Nat → Int64), z = some (.int v) ∧ S1.2.2 o = some (kJ 1 f)) : kl_P l G yL_end mL_end hL_end (d + 1) [.ref 0, .int x1, .ref o] S (fun z S' => z = some (.int (nI 0)) ∧ ∃ (v : Int32) (S1 : ks_S) (f : Nat → Int64), P1 (some (.int v)) S1 ∧ S1.2.2 o = some (kJ 1 f) ∧ S' = ks_set S1 o (kJ 1 (va_up f 0 v.toInt64))) := by
  refine kl_of htr (by decide) rfl rfl (Nat.le_of_ble_eq_true rfl) ?_
  show ks_L l G (hL_end, 0, fun _ => 0) mL_end (d + 1) 0 [(0, .ref 0), (1, .int x1), (2, .ref o)] [] S _
  refine kl_aload_n dL_end_0 rfl rfl ?_
  refine kl_iconst (x := nI 0) dL_end_1 (by decide) rfl ?_
  refine kl_aload_n dL_end_2 rfl rfl ?_
  refine kl_iload_n dL_end_3 rfl rfl ?_
  refine kl_callV (n := 1) (M' := mX11_end) hM h0 cl_X11 rfl kx_1155 kx_1156 kx_1157 kx_1 kx_1158 (by decide +kernel) rfl (by decide) (Nat.le_of_ble_eq_true rfl) rfl dL_end_4 rfl (fun z1 S1 y1 => ?_)
  obtain ⟨v, f, rfl, e1⟩ := hz z1 S1 y1
  refine kl_i2l dL_end_7 rfl ?_
  refine kl_lastN (i := 0) e1 rfl (by decide) (by decide) dL_end_8 rfl ?_
  refine kl_goto (tgt := 15) dL_end_9 (by decide) ?_
  refine kl_iconst (x := nI 0) dL_end_15 (by decide) rfl ?_
  refine ks_X.law (ks_iret rfl dL_end_16 ?_)
  exact ⟨rfl, v, S1, f, y1, e1, rfl⟩
set_option maxRecDepth 100000 in
set_option maxHeartbeats 800000 in
theorem hl_end_no1 {l : Launch} {G : ks_G} {d : Nat} {S : ks_S} (htr : l.stackTraces = false) {o : Nat} {x1 : Int32} {fs : List Value} {P1 : Option Value → ks_S → Prop} (h0 : S.2.2 0 = some (.inr (14, fs))) (hM : kt_P l G yX11_end mX11_end d [.ref 0, .int x1] S P1) (hk : ∀ z S1, P1 z S1 → z = some (.int (nI 1))) : kl_P l G yL_end mL_end hL_end (d + 1) [.ref 0, .int x1, .ref o] S (fun z S' => z = some (.int (nI 1)) ∧ ∃ z1, P1 z1 S') := by
  refine kl_of htr (by decide) rfl rfl (Nat.le_of_ble_eq_true rfl) ?_
  show ks_L l G (hL_end, 0, fun _ => 0) mL_end (d + 1) 0 [(0, .ref 0), (1, .int x1), (2, .ref o)] [] S _
  refine kl_aload_n dL_end_0 rfl rfl ?_
  refine kl_iconst (x := nI 0) dL_end_1 (by decide) rfl ?_
  refine kl_aload_n dL_end_2 rfl rfl ?_
  refine kl_iload_n dL_end_3 rfl rfl ?_
  refine kl_catchV (n := 1) (M' := mX11_end) (k9 := 1) (E := "java/lang/IllegalArgumentException") [] ⟨0, 9, 12, 19⟩ [] hM hk rfl h0 cl_X11 rfl kx_1155 kx_1156 kx_1157 kx_1 kx_1158 (by decide +kernel) rfl (by decide) (Nat.le_of_ble_eq_true rfl) rfl dL_end_4 rfl (fun z hz => by cases hz) rfl (by decide) kx_1154 kx_157 (kl_as_n dL_end_12 (by decide) rfl) (fun v1 S1 y1 => ?_)
  refine kl_iconst (x := nI 1) dL_end_13 (by decide) rfl ?_
  refine ks_X.law (ks_iret rfl dL_end_14 ?_)
  exact ⟨rfl, v1, y1⟩
set_option maxRecDepth 100000 in
set_option maxHeartbeats 800000 in
theorem hl_patch_ok {l : Launch} {G : ks_G} {d : Nat} {S : ks_S} (htr : l.stackTraces = false) {o : Nat} {x1 : Int32} {x2 : Int32} {fs : List Value} {P1 : Option Value → ks_S → Prop} (h0 : S.2.2 0 = some (.inr (14, fs))) (hM : ks_P l G yX11_patch mX11_patch d [.ref 0, .int x1, .int x2] S P1) (hz : ∀ z S1, P1 z S1 → ∃ (v : Int32) (f : Nat → Int64), z = some (.int v) ∧ S1.2.2 o = some (kJ 1 f)) : kl_P l G yL_patch mL_patch hL_patch (d + 1) [.ref 0, .int x1, .int x2, .ref o] S (fun z S' => z = some (.int (nI 0)) ∧ ∃ (v : Int32) (S1 : ks_S) (f : Nat → Int64), P1 (some (.int v)) S1 ∧ S1.2.2 o = some (kJ 1 f) ∧ S' = ks_set S1 o (kJ 1 (va_up f 0 v.toInt64))) := by
  refine kl_of htr (by decide) rfl rfl (Nat.le_of_ble_eq_true rfl) ?_
  show ks_L l G (hL_patch, 0, fun _ => 0) mL_patch (d + 1) 0 [(0, .ref 0), (1, .int x1), (2, .int x2), (3, .ref o)] [] S _
  refine kl_aload_n dL_patch_0 rfl rfl ?_
  refine kl_iconst (x := nI 0) dL_patch_1 (by decide) rfl ?_
  refine kl_aload_n dL_patch_2 rfl rfl ?_
  refine kl_iload_n dL_patch_3 rfl rfl ?_
  refine kl_iload_n dL_patch_4 rfl rfl ?_
  refine kl_callV (n := 2) (M' := mX11_patch) hM h0 cl_X11 rfl kx_1167 kx_1168 kx_1169 kx_1 kx_1170 (by decide +kernel) rfl (by decide) (Nat.le_of_ble_eq_true rfl) rfl dL_patch_5 rfl (fun z1 S1 y1 => ?_)
  obtain ⟨v, f, rfl, e1⟩ := hz z1 S1 y1
  refine kl_i2l dL_patch_8 rfl ?_
  refine kl_lastN (i := 0) e1 rfl (by decide) (by decide) dL_patch_9 rfl ?_
  refine kl_goto (tgt := 17) dL_patch_10 (by decide) ?_
  refine kl_iconst (x := nI 0) dL_patch_17 (by decide) rfl ?_
  refine ks_X.law (ks_iret rfl dL_patch_18 ?_)
  exact ⟨rfl, v, S1, f, y1, e1, rfl⟩
set_option maxRecDepth 100000 in
set_option maxHeartbeats 800000 in
theorem hl_patch_no1 {l : Launch} {G : ks_G} {d : Nat} {S : ks_S} (htr : l.stackTraces = false) {o : Nat} {x1 : Int32} {x2 : Int32} {fs : List Value} {P1 : Option Value → ks_S → Prop} (h0 : S.2.2 0 = some (.inr (14, fs))) (hM : kt_P l G yX11_patch mX11_patch d [.ref 0, .int x1, .int x2] S P1) (hk : ∀ z S1, P1 z S1 → z = some (.int (nI 1))) : kl_P l G yL_patch mL_patch hL_patch (d + 1) [.ref 0, .int x1, .int x2, .ref o] S (fun z S' => z = some (.int (nI 1)) ∧ ∃ z1, P1 z1 S') := by
  refine kl_of htr (by decide) rfl rfl (Nat.le_of_ble_eq_true rfl) ?_
  show ks_L l G (hL_patch, 0, fun _ => 0) mL_patch (d + 1) 0 [(0, .ref 0), (1, .int x1), (2, .int x2), (3, .ref o)] [] S _
  refine kl_aload_n dL_patch_0 rfl rfl ?_
  refine kl_iconst (x := nI 0) dL_patch_1 (by decide) rfl ?_
  refine kl_aload_n dL_patch_2 rfl rfl ?_
  refine kl_iload_n dL_patch_3 rfl rfl ?_
  refine kl_iload_n dL_patch_4 rfl rfl ?_
  refine kl_catchV (n := 2) (M' := mX11_patch) (k9 := 1) (E := "java/lang/IllegalArgumentException") [] ⟨0, 10, 13, 19⟩ [] hM hk rfl h0 cl_X11 rfl kx_1167 kx_1168 kx_1169 kx_1 kx_1170 (by decide +kernel) rfl (by decide) (Nat.le_of_ble_eq_true rfl) rfl dL_patch_5 rfl (fun z hz => by cases hz) rfl (by decide) kx_1154 kx_157 (kl_as dL_patch_13 (by decide) rfl) (fun v1 S1 y1 => ?_)
  refine kl_iconst (x := nI 1) dL_patch_15 (by decide) rfl ?_
  refine ks_X.law (ks_iret rfl dL_patch_16 ?_)
  exact ⟨rfl, v1, y1⟩
set_option maxRecDepth 100000 in
set_option maxHeartbeats 800000 in
theorem hl_key_ok {l : Launch} {G : ks_G} {d : Nat} {S : ks_S} (htr : l.stackTraces = false) {o : Nat} {x1 : Int32} {x2 : Int32} {fs : List Value} {P1 : Option Value → ks_S → Prop} (h0 : S.2.2 0 = some (.inr (14, fs))) (hM : ks_P l G yX11_key mX11_key d [.ref 0, .int x1, .int x2] S P1) (hz : ∀ z S1, P1 z S1 → ∃ (v : Int32) (f : Nat → Int64), z = some (.int v) ∧ S1.2.2 o = some (kJ 1 f)) : kl_P l G yL_key mL_key hL_key (d + 1) [.ref 0, .int x1, .int x2, .ref o] S (fun z S' => z = some (.int (nI 0)) ∧ ∃ (v : Int32) (S1 : ks_S) (f : Nat → Int64), P1 (some (.int v)) S1 ∧ S1.2.2 o = some (kJ 1 f) ∧ S' = ks_set S1 o (kJ 1 (va_up f 0 v.toInt64))) := by
  refine kl_of htr (by decide) rfl rfl (Nat.le_of_ble_eq_true rfl) ?_
  show ks_L l G (hL_key, 0, fun _ => 0) mL_key (d + 1) 0 [(0, .ref 0), (1, .int x1), (2, .int x2), (3, .ref o)] [] S _
  refine kl_aload_n dL_key_0 rfl rfl ?_
  refine kl_iconst (x := nI 0) dL_key_1 (by decide) rfl ?_
  refine kl_aload_n dL_key_2 rfl rfl ?_
  refine kl_iload_n dL_key_3 rfl rfl ?_
  refine kl_iload_n dL_key_4 rfl rfl ?_
  refine kl_callV (n := 2) (M' := mX11_key) hM h0 cl_X11 rfl kx_1174 kx_1175 kx_1176 kx_1 kx_1177 (by decide +kernel) rfl (by decide) (Nat.le_of_ble_eq_true rfl) rfl dL_key_5 rfl (fun z1 S1 y1 => ?_)
  obtain ⟨v, f, rfl, e1⟩ := hz z1 S1 y1
  refine kl_i2l dL_key_8 rfl ?_
  refine kl_lastN (i := 0) e1 rfl (by decide) (by decide) dL_key_9 rfl ?_
  refine kl_goto (tgt := 21) dL_key_10 (by decide) ?_
  refine kl_iconst (x := nI 0) dL_key_21 (by decide) rfl ?_
  refine ks_X.law (ks_iret rfl dL_key_22 ?_)
  exact ⟨rfl, v, S1, f, y1, e1, rfl⟩
set_option maxRecDepth 100000 in
set_option maxHeartbeats 800000 in
theorem hl_key_no1 {l : Launch} {G : ks_G} {d : Nat} {S : ks_S} (htr : l.stackTraces = false) {o : Nat} {x1 : Int32} {x2 : Int32} {fs : List Value} {P1 : Option Value → ks_S → Prop} (h0 : S.2.2 0 = some (.inr (14, fs))) (hM : kt_P l G yX11_key mX11_key d [.ref 0, .int x1, .int x2] S P1) (hk : ∀ z S1, P1 z S1 → z = some (.int (nI 1))) : kl_P l G yL_key mL_key hL_key (d + 1) [.ref 0, .int x1, .int x2, .ref o] S (fun z S' => z = some (.int (nI 1)) ∧ ∃ z1, P1 z1 S') := by
  refine kl_of htr (by decide) rfl rfl (Nat.le_of_ble_eq_true rfl) ?_
  show ks_L l G (hL_key, 0, fun _ => 0) mL_key (d + 1) 0 [(0, .ref 0), (1, .int x1), (2, .int x2), (3, .ref o)] [] S _
  refine kl_aload_n dL_key_0 rfl rfl ?_
  refine kl_iconst (x := nI 0) dL_key_1 (by decide) rfl ?_
  refine kl_aload_n dL_key_2 rfl rfl ?_
  refine kl_iload_n dL_key_3 rfl rfl ?_
  refine kl_iload_n dL_key_4 rfl rfl ?_
  refine kl_catchV (n := 2) (M' := mX11_key) (k9 := 1) (E := "java/lang/IllegalArgumentException") [] ⟨0, 10, 13, 19⟩ [⟨0, 10, 17, 13⟩] hM hk rfl h0 cl_X11 rfl kx_1174 kx_1175 kx_1176 kx_1 kx_1177 (by decide +kernel) rfl (by decide) (Nat.le_of_ble_eq_true rfl) rfl dL_key_5 rfl (fun z hz => by cases hz) rfl (by decide) kx_1154 kx_157 (kl_as dL_key_13 (by decide) rfl) (fun v1 S1 y1 => ?_)
  refine kl_iconst (x := nI 1) dL_key_15 (by decide) rfl ?_
  refine ks_X.law (ks_iret rfl dL_key_16 ?_)
  exact ⟨rfl, v1, y1⟩
set_option maxRecDepth 100000 in
set_option maxHeartbeats 800000 in
theorem hl_key_no0 {l : Launch} {G : ks_G} {d : Nat} {S : ks_S} (htr : l.stackTraces = false) {o : Nat} {x1 : Int32} {x2 : Int32} {fs : List Value} {P1 : Option Value → ks_S → Prop} (h0 : S.2.2 0 = some (.inr (14, fs))) (hM : kt_P l G yX11_key mX11_key d [.ref 0, .int x1, .int x2] S P1) (hk : ∀ z S1, P1 z S1 → z = some (.int (nI 0))) : kl_P l G yL_key mL_key hL_key (d + 1) [.ref 0, .int x1, .int x2, .ref o] S (fun z S' => z = some (.int (nI 2)) ∧ ∃ z1, P1 z1 S') := by
  refine kl_of htr (by decide) rfl rfl (Nat.le_of_ble_eq_true rfl) ?_
  show ks_L l G (hL_key, 0, fun _ => 0) mL_key (d + 1) 0 [(0, .ref 0), (1, .int x1), (2, .int x2), (3, .ref o)] [] S _
  refine kl_aload_n dL_key_0 rfl rfl ?_
  refine kl_iconst (x := nI 0) dL_key_1 (by decide) rfl ?_
  refine kl_aload_n dL_key_2 rfl rfl ?_
  refine kl_iload_n dL_key_3 rfl rfl ?_
  refine kl_iload_n dL_key_4 rfl rfl ?_
  refine kl_catchV (n := 2) (M' := mX11_key) (k9 := 0) (E := "java/lang/IndexOutOfBoundsException") [⟨0, 10, 13, 19⟩] ⟨0, 10, 17, 13⟩ [] hM hk rfl h0 cl_X11 rfl kx_1174 kx_1175 kx_1176 kx_1 kx_1177 (by decide +kernel) rfl (by decide) (Nat.le_of_ble_eq_true rfl) rfl dL_key_5 rfl (fun z hz => by
      simp only [List.mem_cons, List.not_mem_nil, or_false] at hz
      rcases hz with rfl
      · exact ⟨(by decide : (19 : Nat) ≠ 0), _, kx_1154, fun U h => h.1⟩) rfl (by decide) kx_1118 kx_1125 (kl_as dL_key_17 (by decide) rfl) (fun v1 S1 y1 => ?_)
  refine kl_iconst (x := nI 2) dL_key_19 (by decide) rfl ?_
  refine ks_X.law (ks_iret rfl dL_key_20 ?_)
  exact ⟨rfl, v1, y1⟩
set_option maxRecDepth 100000 in
set_option maxHeartbeats 800000 in
theorem hl_digest_ok {l : Launch} {G : ks_G} {d : Nat} {S : ks_S} (htr : l.stackTraces = false) {o : Nat} {x1 : Int32} {fs : List Value} {P1 : Option Value → ks_S → Prop} (h0 : S.2.2 0 = some (.inr (14, fs))) (hM : ks_P l G yX11_digest mX11_digest d [.ref 0, .int x1] S P1) (hz : ∀ z S1, P1 z S1 → ∃ (v : Int32) (f : Nat → Int64), z = some (.int v) ∧ S1.2.2 o = some (kJ 1 f)) : kl_P l G yL_digest mL_digest hL_digest (d + 1) [.ref 0, .int x1, .ref o] S (fun z S' => z = some (.int (nI 0)) ∧ ∃ (v : Int32) (S1 : ks_S) (f : Nat → Int64), P1 (some (.int v)) S1 ∧ S1.2.2 o = some (kJ 1 f) ∧ S' = ks_set S1 o (kJ 1 (va_up f 0 v.toInt64))) := by
  refine kl_of htr (by decide) rfl rfl (Nat.le_of_ble_eq_true rfl) ?_
  show ks_L l G (hL_digest, 0, fun _ => 0) mL_digest (d + 1) 0 [(0, .ref 0), (1, .int x1), (2, .ref o)] [] S _
  refine kl_aload_n dL_digest_0 rfl rfl ?_
  refine kl_iconst (x := nI 0) dL_digest_1 (by decide) rfl ?_
  refine kl_aload_n dL_digest_2 rfl rfl ?_
  refine kl_iload_n dL_digest_3 rfl rfl ?_
  refine kl_callV (n := 1) (M' := mX11_digest) hM h0 cl_X11 rfl kx_1246 kx_1247 kx_1248 kx_1 kx_1249 (by decide +kernel) rfl (by decide) (Nat.le_of_ble_eq_true rfl) rfl dL_digest_4 rfl (fun z1 S1 y1 => ?_)
  obtain ⟨v, f, rfl, e1⟩ := hz z1 S1 y1
  refine kl_i2l dL_digest_7 rfl ?_
  refine kl_lastN (i := 0) e1 rfl (by decide) (by decide) dL_digest_8 rfl ?_
  refine kl_goto (tgt := 15) dL_digest_9 (by decide) ?_
  refine kl_iconst (x := nI 0) dL_digest_15 (by decide) rfl ?_
  refine ks_X.law (ks_iret rfl dL_digest_16 ?_)
  exact ⟨rfl, v, S1, f, y1, e1, rfl⟩
set_option maxRecDepth 100000 in
set_option maxHeartbeats 800000 in
theorem hl_digest_no1 {l : Launch} {G : ks_G} {d : Nat} {S : ks_S} (htr : l.stackTraces = false) {o : Nat} {x1 : Int32} {fs : List Value} {P1 : Option Value → ks_S → Prop} (h0 : S.2.2 0 = some (.inr (14, fs))) (hM : kt_P l G yX11_digest mX11_digest d [.ref 0, .int x1] S P1) (hk : ∀ z S1, P1 z S1 → z = some (.int (nI 1))) : kl_P l G yL_digest mL_digest hL_digest (d + 1) [.ref 0, .int x1, .ref o] S (fun z S' => z = some (.int (nI 1)) ∧ ∃ z1, P1 z1 S') := by
  refine kl_of htr (by decide) rfl rfl (Nat.le_of_ble_eq_true rfl) ?_
  show ks_L l G (hL_digest, 0, fun _ => 0) mL_digest (d + 1) 0 [(0, .ref 0), (1, .int x1), (2, .ref o)] [] S _
  refine kl_aload_n dL_digest_0 rfl rfl ?_
  refine kl_iconst (x := nI 0) dL_digest_1 (by decide) rfl ?_
  refine kl_aload_n dL_digest_2 rfl rfl ?_
  refine kl_iload_n dL_digest_3 rfl rfl ?_
  refine kl_catchV (n := 1) (M' := mX11_digest) (k9 := 1) (E := "java/lang/IllegalArgumentException") [] ⟨0, 9, 12, 19⟩ [] hM hk rfl h0 cl_X11 rfl kx_1246 kx_1247 kx_1248 kx_1 kx_1249 (by decide +kernel) rfl (by decide) (Nat.le_of_ble_eq_true rfl) rfl dL_digest_4 rfl (fun z hz => by cases hz) rfl (by decide) kx_1154 kx_157 (kl_as_n dL_digest_12 (by decide) rfl) (fun v1 S1 y1 => ?_)
  refine kl_iconst (x := nI 1) dL_digest_13 (by decide) rfl ?_
  refine ks_X.law (ks_iret rfl dL_digest_14 ?_)
  exact ⟨rfl, v1, y1⟩
set_option maxRecDepth 100000 in
set_option maxHeartbeats 800000 in
theorem hl_open_ok {l : Launch} {G : ks_G} {d : Nat} {S : ks_S} (htr : l.stackTraces = false) {x1 : Int32} {x2 : Int64} {fs : List Value} {P1 : Option Value → ks_S → Prop} (h0 : S.2.2 0 = some (.inr (14, fs))) (hM : ks_P l G yX11_open mX11_open d [.ref 0, .int x1, .long x2] S P1) (hz : ∀ z S1, P1 z S1 → z = none) : kl_P l G yL_open mL_open hL_open (d + 1) [.ref 0, .int x1, .long x2] S (fun z S' => z = some (.int (nI 0)) ∧ P1 none S') := by
  refine kl_of htr (by decide) rfl rfl (Nat.le_of_ble_eq_true rfl) ?_
  show ks_L l G (hL_open, 0, fun _ => 0) mL_open (d + 1) 0 [(0, .ref 0), (1, .int x1), (2, .long x2)] [] S _
  refine kl_aload_n dL_open_0 rfl rfl ?_
  refine kl_iload_n dL_open_1 rfl rfl ?_
  refine kl_lload_n dL_open_2 rfl rfl ?_
  refine kl_callV (n := 2) (M' := mX11_open) hM h0 cl_X11 rfl kx_1255 kx_1256 kx_1257 kx_1 kx_1258 (by decide +kernel) rfl (by decide) (Nat.le_of_ble_eq_true rfl) rfl dL_open_3 rfl (fun z1 S1 y1 => ?_)
  obtain rfl := hz z1 S1 y1
  refine kl_goto (tgt := 13) dL_open_6 (by decide) ?_
  refine kl_iconst (x := nI 0) dL_open_13 (by decide) rfl ?_
  refine ks_X.law (ks_iret rfl dL_open_14 ?_)
  exact ⟨rfl, y1⟩
set_option maxRecDepth 100000 in
set_option maxHeartbeats 800000 in
theorem hl_open_no1 {l : Launch} {G : ks_G} {d : Nat} {S : ks_S} (htr : l.stackTraces = false) {x1 : Int32} {x2 : Int64} {fs : List Value} {P1 : Option Value → ks_S → Prop} (h0 : S.2.2 0 = some (.inr (14, fs))) (hM : kt_P l G yX11_open mX11_open d [.ref 0, .int x1, .long x2] S P1) (hk : ∀ z S1, P1 z S1 → z = some (.int (nI 1))) : kl_P l G yL_open mL_open hL_open (d + 1) [.ref 0, .int x1, .long x2] S (fun z S' => z = some (.int (nI 1)) ∧ ∃ z1, P1 z1 S') := by
  refine kl_of htr (by decide) rfl rfl (Nat.le_of_ble_eq_true rfl) ?_
  show ks_L l G (hL_open, 0, fun _ => 0) mL_open (d + 1) 0 [(0, .ref 0), (1, .int x1), (2, .long x2)] [] S _
  refine kl_aload_n dL_open_0 rfl rfl ?_
  refine kl_iload_n dL_open_1 rfl rfl ?_
  refine kl_lload_n dL_open_2 rfl rfl ?_
  refine kl_catchV (n := 2) (M' := mX11_open) (k9 := 1) (E := "java/lang/IllegalArgumentException") [] ⟨0, 6, 9, 19⟩ [] hM hk rfl h0 cl_X11 rfl kx_1255 kx_1256 kx_1257 kx_1 kx_1258 (by decide +kernel) rfl (by decide) (Nat.le_of_ble_eq_true rfl) rfl dL_open_3 rfl (fun z hz => by cases hz) rfl (by decide) kx_1154 kx_157 (kl_as dL_open_9 (by decide) rfl) (fun v1 S1 y1 => ?_)
  refine kl_iconst (x := nI 1) dL_open_11 (by decide) rfl ?_
  refine ks_X.law (ks_iret rfl dL_open_12 ?_)
  exact ⟨rfl, v1, y1⟩
set_option maxRecDepth 100000 in
set_option maxHeartbeats 800000 in
theorem hl_tx_ok {l : Launch} {G : ks_G} {d : Nat} {S : ks_S} (htr : l.stackTraces = false) {o : Nat} {x1 : Int64} {x2 : Int64} {fs : List Value} {P1 : Option Value → ks_S → Prop} (h0 : S.2.2 0 = some (.inr (14, fs))) (hM : ks_P l G yX11_tx mX11_tx d [.ref 0, .long x1, .long x2] S P1) (hz : ∀ z S1, P1 z S1 → ∃ (v : Int32) (f : Nat → Int64), z = some (.int v) ∧ S1.2.2 o = some (kJ 1 f)) : kl_P l G yL_tx mL_tx hL_tx (d + 1) [.ref 0, .long x1, .long x2, .ref o] S (fun z S' => z = some (.int (nI 0)) ∧ ∃ (v : Int32) (S1 : ks_S) (f : Nat → Int64), P1 (some (.int v)) S1 ∧ S1.2.2 o = some (kJ 1 f) ∧ S' = ks_set S1 o (kJ 1 (va_up f 0 v.toInt64))) := by
  refine kl_of htr (by decide) rfl rfl (Nat.le_of_ble_eq_true rfl) ?_
  show ks_L l G (hL_tx, 0, fun _ => 0) mL_tx (d + 1) 0 [(0, .ref 0), (1, .long x1), (3, .long x2), (5, .ref o)] [] S _
  refine kl_aload dL_tx_0 rfl rfl ?_
  refine kl_iconst (x := nI 0) dL_tx_2 (by decide) rfl ?_
  refine kl_aload_n dL_tx_3 rfl rfl ?_
  refine kl_lload_n dL_tx_4 rfl rfl ?_
  refine kl_lload_n dL_tx_5 rfl rfl ?_
  refine kl_callV (n := 2) (M' := mX11_tx) hM h0 cl_X11 rfl kx_1265 kx_1266 kx_1267 kx_1 kx_1268 (by decide +kernel) rfl (by decide) (Nat.le_of_ble_eq_true rfl) rfl dL_tx_6 rfl (fun z1 S1 y1 => ?_)
  obtain ⟨v, f, rfl, e1⟩ := hz z1 S1 y1
  refine kl_i2l dL_tx_9 rfl ?_
  refine kl_lastN (i := 0) e1 rfl (by decide) (by decide) dL_tx_10 rfl ?_
  refine kl_goto (tgt := 22) dL_tx_11 (by decide) ?_
  refine kl_iconst (x := nI 0) dL_tx_22 (by decide) rfl ?_
  refine ks_X.law (ks_iret rfl dL_tx_23 ?_)
  exact ⟨rfl, v, S1, f, y1, e1, rfl⟩
set_option maxRecDepth 100000 in
set_option maxHeartbeats 800000 in
theorem hl_tx_no1 {l : Launch} {G : ks_G} {d : Nat} {S : ks_S} (htr : l.stackTraces = false) {o : Nat} {x1 : Int64} {x2 : Int64} {fs : List Value} {P1 : Option Value → ks_S → Prop} (h0 : S.2.2 0 = some (.inr (14, fs))) (hM : kt_P l G yX11_tx mX11_tx d [.ref 0, .long x1, .long x2] S P1) (hk : ∀ z S1, P1 z S1 → z = some (.int (nI 1))) : kl_P l G yL_tx mL_tx hL_tx (d + 1) [.ref 0, .long x1, .long x2, .ref o] S (fun z S' => z = some (.int (nI 1)) ∧ ∃ z1, P1 z1 S') := by
  refine kl_of htr (by decide) rfl rfl (Nat.le_of_ble_eq_true rfl) ?_
  show ks_L l G (hL_tx, 0, fun _ => 0) mL_tx (d + 1) 0 [(0, .ref 0), (1, .long x1), (3, .long x2), (5, .ref o)] [] S _
  refine kl_aload dL_tx_0 rfl rfl ?_
  refine kl_iconst (x := nI 0) dL_tx_2 (by decide) rfl ?_
  refine kl_aload_n dL_tx_3 rfl rfl ?_
  refine kl_lload_n dL_tx_4 rfl rfl ?_
  refine kl_lload_n dL_tx_5 rfl rfl ?_
  refine kl_catchV (n := 2) (M' := mX11_tx) (k9 := 1) (E := "java/lang/IllegalArgumentException") [] ⟨0, 11, 14, 19⟩ [⟨0, 11, 18, 13⟩] hM hk rfl h0 cl_X11 rfl kx_1265 kx_1266 kx_1267 kx_1 kx_1268 (by decide +kernel) rfl (by decide) (Nat.le_of_ble_eq_true rfl) rfl dL_tx_6 rfl (fun z hz => by cases hz) rfl (by decide) kx_1154 kx_157 (kl_as dL_tx_14 (by decide) rfl) (fun v1 S1 y1 => ?_)
  refine kl_iconst (x := nI 1) dL_tx_16 (by decide) rfl ?_
  refine ks_X.law (ks_iret rfl dL_tx_17 ?_)
  exact ⟨rfl, v1, y1⟩
set_option maxRecDepth 100000 in
set_option maxHeartbeats 800000 in
theorem hl_tx_no0 {l : Launch} {G : ks_G} {d : Nat} {S : ks_S} (htr : l.stackTraces = false) {o : Nat} {x1 : Int64} {x2 : Int64} {fs : List Value} {P1 : Option Value → ks_S → Prop} (h0 : S.2.2 0 = some (.inr (14, fs))) (hM : kt_P l G yX11_tx mX11_tx d [.ref 0, .long x1, .long x2] S P1) (hk : ∀ z S1, P1 z S1 → z = some (.int (nI 0))) : kl_P l G yL_tx mL_tx hL_tx (d + 1) [.ref 0, .long x1, .long x2, .ref o] S (fun z S' => z = some (.int (nI 2)) ∧ ∃ z1, P1 z1 S') := by
  refine kl_of htr (by decide) rfl rfl (Nat.le_of_ble_eq_true rfl) ?_
  show ks_L l G (hL_tx, 0, fun _ => 0) mL_tx (d + 1) 0 [(0, .ref 0), (1, .long x1), (3, .long x2), (5, .ref o)] [] S _
  refine kl_aload dL_tx_0 rfl rfl ?_
  refine kl_iconst (x := nI 0) dL_tx_2 (by decide) rfl ?_
  refine kl_aload_n dL_tx_3 rfl rfl ?_
  refine kl_lload_n dL_tx_4 rfl rfl ?_
  refine kl_lload_n dL_tx_5 rfl rfl ?_
  refine kl_catchV (n := 2) (M' := mX11_tx) (k9 := 0) (E := "java/lang/IndexOutOfBoundsException") [⟨0, 11, 14, 19⟩] ⟨0, 11, 18, 13⟩ [] hM hk rfl h0 cl_X11 rfl kx_1265 kx_1266 kx_1267 kx_1 kx_1268 (by decide +kernel) rfl (by decide) (Nat.le_of_ble_eq_true rfl) rfl dL_tx_6 rfl (fun z hz => by
      simp only [List.mem_cons, List.not_mem_nil, or_false] at hz
      rcases hz with rfl
      · exact ⟨(by decide : (19 : Nat) ≠ 0), _, kx_1154, fun U h => h.1⟩) rfl (by decide) kx_1118 kx_1125 (kl_as dL_tx_18 (by decide) rfl) (fun v1 S1 y1 => ?_)
  refine kl_iconst (x := nI 2) dL_tx_20 (by decide) rfl ?_
  refine ks_X.law (ks_iret rfl dL_tx_21 ?_)
  exact ⟨rfl, v1, y1⟩
set_option maxRecDepth 100000 in
set_option maxHeartbeats 800000 in
theorem hl_input_ok {l : Launch} {G : ks_G} {d : Nat} {S : ks_S} (htr : l.stackTraces = false) {o : Nat} {x1 : Int32} {x2 : Int32} {x3 : Int32} {x4 : Int64} {fs : List Value} {P1 : Option Value → ks_S → Prop} (h0 : S.2.2 0 = some (.inr (14, fs))) (hM : ks_P l G yX11_input mX11_input d [.ref 0, .int x1, .int x2, .int x3, .long x4] S P1) (hz : ∀ z S1, P1 z S1 → ∃ (v : Int32) (f : Nat → Int64), z = some (.int v) ∧ S1.2.2 o = some (kJ 1 f)) : kl_P l G yL_input mL_input hL_input (d + 1) [.ref 0, .int x1, .int x2, .int x3, .long x4, .ref o] S (fun z S' => z = some (.int (nI 0)) ∧ ∃ (v : Int32) (S1 : ks_S) (f : Nat → Int64), P1 (some (.int v)) S1 ∧ S1.2.2 o = some (kJ 1 f) ∧ S' = ks_set S1 o (kJ 1 (va_up f 0 v.toInt64))) := by
  refine kl_of htr (by decide) rfl rfl (Nat.le_of_ble_eq_true rfl) ?_
  show ks_L l G (hL_input, 0, fun _ => 0) mL_input (d + 1) 0 [(0, .ref 0), (1, .int x1), (2, .int x2), (3, .int x3), (4, .long x4), (6, .ref o)] [] S _
  refine kl_aload dL_input_0 rfl rfl ?_
  refine kl_iconst (x := nI 0) dL_input_2 (by decide) rfl ?_
  refine kl_aload_n dL_input_3 rfl rfl ?_
  refine kl_iload_n dL_input_4 rfl rfl ?_
  refine kl_iload_n dL_input_5 rfl rfl ?_
  refine kl_iload_n dL_input_6 rfl rfl ?_
  refine kl_lload dL_input_7 rfl rfl ?_
  refine kl_callV (n := 4) (M' := mX11_input) hM h0 cl_X11 rfl kx_1273 kx_1274 kx_1275 kx_1 kx_1276 (by decide +kernel) rfl (by decide) (Nat.le_of_ble_eq_true rfl) rfl dL_input_9 rfl (fun z1 S1 y1 => ?_)
  obtain ⟨v, f, rfl, e1⟩ := hz z1 S1 y1
  refine kl_i2l dL_input_12 rfl ?_
  refine kl_lastN (i := 0) e1 rfl (by decide) (by decide) dL_input_13 rfl ?_
  refine kl_goto (tgt := 29) dL_input_14 (by decide) ?_
  refine kl_iconst (x := nI 0) dL_input_29 (by decide) rfl ?_
  refine ks_X.law (ks_iret rfl dL_input_30 ?_)
  exact ⟨rfl, v, S1, f, y1, e1, rfl⟩
set_option maxRecDepth 100000 in
set_option maxHeartbeats 800000 in
theorem hl_input_no1 {l : Launch} {G : ks_G} {d : Nat} {S : ks_S} (htr : l.stackTraces = false) {o : Nat} {x1 : Int32} {x2 : Int32} {x3 : Int32} {x4 : Int64} {fs : List Value} {P1 : Option Value → ks_S → Prop} (h0 : S.2.2 0 = some (.inr (14, fs))) (hM : kt_P l G yX11_input mX11_input d [.ref 0, .int x1, .int x2, .int x3, .long x4] S P1) (hk : ∀ z S1, P1 z S1 → z = some (.int (nI 1))) : kl_P l G yL_input mL_input hL_input (d + 1) [.ref 0, .int x1, .int x2, .int x3, .long x4, .ref o] S (fun z S' => z = some (.int (nI 1)) ∧ ∃ z1, P1 z1 S') := by
  refine kl_of htr (by decide) rfl rfl (Nat.le_of_ble_eq_true rfl) ?_
  show ks_L l G (hL_input, 0, fun _ => 0) mL_input (d + 1) 0 [(0, .ref 0), (1, .int x1), (2, .int x2), (3, .int x3), (4, .long x4), (6, .ref o)] [] S _
  refine kl_aload dL_input_0 rfl rfl ?_
  refine kl_iconst (x := nI 0) dL_input_2 (by decide) rfl ?_
  refine kl_aload_n dL_input_3 rfl rfl ?_
  refine kl_iload_n dL_input_4 rfl rfl ?_
  refine kl_iload_n dL_input_5 rfl rfl ?_
  refine kl_iload_n dL_input_6 rfl rfl ?_
  refine kl_lload dL_input_7 rfl rfl ?_
  refine kl_catchV (n := 4) (M' := mX11_input) (k9 := 1) (E := "java/lang/IllegalArgumentException") [] ⟨0, 14, 17, 19⟩ [⟨0, 14, 21, 43⟩, ⟨0, 14, 25, 13⟩] hM hk rfl h0 cl_X11 rfl kx_1273 kx_1274 kx_1275 kx_1 kx_1276 (by decide +kernel) rfl (by decide) (Nat.le_of_ble_eq_true rfl) rfl dL_input_9 rfl (fun z hz => by cases hz) rfl (by decide) kx_1154 kx_157 (kl_as dL_input_17 (by decide) rfl) (fun v1 S1 y1 => ?_)
  refine kl_iconst (x := nI 1) dL_input_19 (by decide) rfl ?_
  refine ks_X.law (ks_iret rfl dL_input_20 ?_)
  exact ⟨rfl, v1, y1⟩
set_option maxRecDepth 100000 in
set_option maxHeartbeats 800000 in
theorem hl_input_no2 {l : Launch} {G : ks_G} {d : Nat} {S : ks_S} (htr : l.stackTraces = false) {o : Nat} {x1 : Int32} {x2 : Int32} {x3 : Int32} {x4 : Int64} {fs : List Value} {P1 : Option Value → ks_S → Prop} (h0 : S.2.2 0 = some (.inr (14, fs))) (hM : kt_P l G yX11_input mX11_input d [.ref 0, .int x1, .int x2, .int x3, .long x4] S P1) (hk : ∀ z S1, P1 z S1 → z = some (.int (nI 2))) : kl_P l G yL_input mL_input hL_input (d + 1) [.ref 0, .int x1, .int x2, .int x3, .long x4, .ref o] S (fun z S' => z = some (.int (nI 2)) ∧ ∃ z1, P1 z1 S') := by
  refine kl_of htr (by decide) rfl rfl (Nat.le_of_ble_eq_true rfl) ?_
  show ks_L l G (hL_input, 0, fun _ => 0) mL_input (d + 1) 0 [(0, .ref 0), (1, .int x1), (2, .int x2), (3, .int x3), (4, .long x4), (6, .ref o)] [] S _
  refine kl_aload dL_input_0 rfl rfl ?_
  refine kl_iconst (x := nI 0) dL_input_2 (by decide) rfl ?_
  refine kl_aload_n dL_input_3 rfl rfl ?_
  refine kl_iload_n dL_input_4 rfl rfl ?_
  refine kl_iload_n dL_input_5 rfl rfl ?_
  refine kl_iload_n dL_input_6 rfl rfl ?_
  refine kl_lload dL_input_7 rfl rfl ?_
  refine kl_catchV (n := 4) (M' := mX11_input) (k9 := 2) (E := "java/lang/IllegalStateException") [⟨0, 14, 17, 19⟩] ⟨0, 14, 21, 43⟩ [⟨0, 14, 25, 13⟩] hM hk rfl h0 cl_X11 rfl kx_1273 kx_1274 kx_1275 kx_1 kx_1276 (by decide +kernel) rfl (by decide) (Nat.le_of_ble_eq_true rfl) rfl dL_input_9 rfl (fun z hz => by
      simp only [List.mem_cons, List.not_mem_nil, or_false] at hz
      rcases hz with rfl
      · exact ⟨(by decide : (19 : Nat) ≠ 0), _, kx_1154, fun U h => h.2.2.1⟩) rfl (by decide) kx_1272 kx_1283 (kl_as dL_input_21 (by decide) rfl) (fun v1 S1 y1 => ?_)
  refine kl_iconst (x := nI 2) dL_input_23 (by decide) rfl ?_
  refine ks_X.law (ks_iret rfl dL_input_24 ?_)
  exact ⟨rfl, v1, y1⟩
set_option maxRecDepth 100000 in
set_option maxHeartbeats 800000 in
theorem hl_input_no0 {l : Launch} {G : ks_G} {d : Nat} {S : ks_S} (htr : l.stackTraces = false) {o : Nat} {x1 : Int32} {x2 : Int32} {x3 : Int32} {x4 : Int64} {fs : List Value} {P1 : Option Value → ks_S → Prop} (h0 : S.2.2 0 = some (.inr (14, fs))) (hM : kt_P l G yX11_input mX11_input d [.ref 0, .int x1, .int x2, .int x3, .long x4] S P1) (hk : ∀ z S1, P1 z S1 → z = some (.int (nI 0))) : kl_P l G yL_input mL_input hL_input (d + 1) [.ref 0, .int x1, .int x2, .int x3, .long x4, .ref o] S (fun z S' => z = some (.int (nI 3)) ∧ ∃ z1, P1 z1 S') := by
  refine kl_of htr (by decide) rfl rfl (Nat.le_of_ble_eq_true rfl) ?_
  show ks_L l G (hL_input, 0, fun _ => 0) mL_input (d + 1) 0 [(0, .ref 0), (1, .int x1), (2, .int x2), (3, .int x3), (4, .long x4), (6, .ref o)] [] S _
  refine kl_aload dL_input_0 rfl rfl ?_
  refine kl_iconst (x := nI 0) dL_input_2 (by decide) rfl ?_
  refine kl_aload_n dL_input_3 rfl rfl ?_
  refine kl_iload_n dL_input_4 rfl rfl ?_
  refine kl_iload_n dL_input_5 rfl rfl ?_
  refine kl_iload_n dL_input_6 rfl rfl ?_
  refine kl_lload dL_input_7 rfl rfl ?_
  refine kl_catchV (n := 4) (M' := mX11_input) (k9 := 0) (E := "java/lang/IndexOutOfBoundsException") [⟨0, 14, 17, 19⟩, ⟨0, 14, 21, 43⟩] ⟨0, 14, 25, 13⟩ [] hM hk rfl h0 cl_X11 rfl kx_1273 kx_1274 kx_1275 kx_1 kx_1276 (by decide +kernel) rfl (by decide) (Nat.le_of_ble_eq_true rfl) rfl dL_input_9 rfl (fun z hz => by
      simp only [List.mem_cons, List.not_mem_nil, or_false] at hz
      rcases hz with rfl | rfl
      · exact ⟨(by decide : (19 : Nat) ≠ 0), _, kx_1154, fun U h => h.1⟩
      · exact ⟨(by decide : (43 : Nat) ≠ 0), _, kx_1272, fun U h => h.2.1⟩) rfl (by decide) kx_1118 kx_1125 (kl_as dL_input_25 (by decide) rfl) (fun v1 S1 y1 => ?_)
  refine kl_iconst (x := nI 3) dL_input_27 (by decide) rfl ?_
  refine ks_X.law (ks_iret rfl dL_input_28 ?_)
  exact ⟨rfl, v1, y1⟩
set_option maxRecDepth 100000 in
set_option maxHeartbeats 800000 in
theorem hl_output_ok {l : Launch} {G : ks_G} {d : Nat} {S : ks_S} (htr : l.stackTraces = false) {o : Nat} {x1 : Int64} {fs : List Value} {P1 : Option Value → ks_S → Prop} (h0 : S.2.2 0 = some (.inr (14, fs))) (hM : ks_P l G yX11_output mX11_output d [.ref 0, .long x1] S P1) (hz : ∀ z S1, P1 z S1 → ∃ (v : Int32) (f : Nat → Int64), z = some (.int v) ∧ S1.2.2 o = some (kJ 1 f)) : kl_P l G yL_output mL_output hL_output (d + 1) [.ref 0, .long x1, .ref o] S (fun z S' => z = some (.int (nI 0)) ∧ ∃ (v : Int32) (S1 : ks_S) (f : Nat → Int64), P1 (some (.int v)) S1 ∧ S1.2.2 o = some (kJ 1 f) ∧ S' = ks_set S1 o (kJ 1 (va_up f 0 v.toInt64))) := by
  refine kl_of htr (by decide) rfl rfl (Nat.le_of_ble_eq_true rfl) ?_
  show ks_L l G (hL_output, 0, fun _ => 0) mL_output (d + 1) 0 [(0, .ref 0), (1, .long x1), (3, .ref o)] [] S _
  refine kl_aload_n dL_output_0 rfl rfl ?_
  refine kl_iconst (x := nI 0) dL_output_1 (by decide) rfl ?_
  refine kl_aload_n dL_output_2 rfl rfl ?_
  refine kl_lload_n dL_output_3 rfl rfl ?_
  refine kl_callV (n := 1) (M' := mX11_output) hM h0 cl_X11 rfl kx_1299 kx_1300 kx_1301 kx_1 kx_1302 (by decide +kernel) rfl (by decide) (Nat.le_of_ble_eq_true rfl) rfl dL_output_4 rfl (fun z1 S1 y1 => ?_)
  obtain ⟨v, f, rfl, e1⟩ := hz z1 S1 y1
  refine kl_i2l dL_output_7 rfl ?_
  refine kl_lastN (i := 0) e1 rfl (by decide) (by decide) dL_output_8 rfl ?_
  refine kl_goto (tgt := 20) dL_output_9 (by decide) ?_
  refine kl_iconst (x := nI 0) dL_output_20 (by decide) rfl ?_
  refine ks_X.law (ks_iret rfl dL_output_21 ?_)
  exact ⟨rfl, v, S1, f, y1, e1, rfl⟩
set_option maxRecDepth 100000 in
set_option maxHeartbeats 800000 in
theorem hl_output_no2 {l : Launch} {G : ks_G} {d : Nat} {S : ks_S} (htr : l.stackTraces = false) {o : Nat} {x1 : Int64} {fs : List Value} {P1 : Option Value → ks_S → Prop} (h0 : S.2.2 0 = some (.inr (14, fs))) (hM : kt_P l G yX11_output mX11_output d [.ref 0, .long x1] S P1) (hk : ∀ z S1, P1 z S1 → z = some (.int (nI 2))) : kl_P l G yL_output mL_output hL_output (d + 1) [.ref 0, .long x1, .ref o] S (fun z S' => z = some (.int (nI 1)) ∧ ∃ z1, P1 z1 S') := by
  refine kl_of htr (by decide) rfl rfl (Nat.le_of_ble_eq_true rfl) ?_
  show ks_L l G (hL_output, 0, fun _ => 0) mL_output (d + 1) 0 [(0, .ref 0), (1, .long x1), (3, .ref o)] [] S _
  refine kl_aload_n dL_output_0 rfl rfl ?_
  refine kl_iconst (x := nI 0) dL_output_1 (by decide) rfl ?_
  refine kl_aload_n dL_output_2 rfl rfl ?_
  refine kl_lload_n dL_output_3 rfl rfl ?_
  refine kl_catchV (n := 1) (M' := mX11_output) (k9 := 2) (E := "java/lang/IllegalStateException") [] ⟨0, 9, 12, 43⟩ [⟨0, 9, 16, 13⟩] hM hk rfl h0 cl_X11 rfl kx_1299 kx_1300 kx_1301 kx_1 kx_1302 (by decide +kernel) rfl (by decide) (Nat.le_of_ble_eq_true rfl) rfl dL_output_4 rfl (fun z hz => by cases hz) rfl (by decide) kx_1272 kx_1283 (kl_as dL_output_12 (by decide) rfl) (fun v1 S1 y1 => ?_)
  refine kl_iconst (x := nI 1) dL_output_14 (by decide) rfl ?_
  refine ks_X.law (ks_iret rfl dL_output_15 ?_)
  exact ⟨rfl, v1, y1⟩
set_option maxRecDepth 100000 in
set_option maxHeartbeats 800000 in
theorem hl_output_no0 {l : Launch} {G : ks_G} {d : Nat} {S : ks_S} (htr : l.stackTraces = false) {o : Nat} {x1 : Int64} {fs : List Value} {P1 : Option Value → ks_S → Prop} (h0 : S.2.2 0 = some (.inr (14, fs))) (hM : kt_P l G yX11_output mX11_output d [.ref 0, .long x1] S P1) (hk : ∀ z S1, P1 z S1 → z = some (.int (nI 0))) : kl_P l G yL_output mL_output hL_output (d + 1) [.ref 0, .long x1, .ref o] S (fun z S' => z = some (.int (nI 2)) ∧ ∃ z1, P1 z1 S') := by
  refine kl_of htr (by decide) rfl rfl (Nat.le_of_ble_eq_true rfl) ?_
  show ks_L l G (hL_output, 0, fun _ => 0) mL_output (d + 1) 0 [(0, .ref 0), (1, .long x1), (3, .ref o)] [] S _
  refine kl_aload_n dL_output_0 rfl rfl ?_
  refine kl_iconst (x := nI 0) dL_output_1 (by decide) rfl ?_
  refine kl_aload_n dL_output_2 rfl rfl ?_
  refine kl_lload_n dL_output_3 rfl rfl ?_
  refine kl_catchV (n := 1) (M' := mX11_output) (k9 := 0) (E := "java/lang/IndexOutOfBoundsException") [⟨0, 9, 12, 43⟩] ⟨0, 9, 16, 13⟩ [] hM hk rfl h0 cl_X11 rfl kx_1299 kx_1300 kx_1301 kx_1 kx_1302 (by decide +kernel) rfl (by decide) (Nat.le_of_ble_eq_true rfl) rfl dL_output_4 rfl (fun z hz => by
      simp only [List.mem_cons, List.not_mem_nil, or_false] at hz
      rcases hz with rfl
      · exact ⟨(by decide : (43 : Nat) ≠ 0), _, kx_1272, fun U h => h.2.1⟩) rfl (by decide) kx_1118 kx_1125 (kl_as dL_output_16 (by decide) rfl) (fun v1 S1 y1 => ?_)
  refine kl_iconst (x := nI 2) dL_output_18 (by decide) rfl ?_
  refine ks_X.law (ks_iret rfl dL_output_19 ?_)
  exact ⟨rfl, v1, y1⟩
set_option maxRecDepth 100000 in
set_option maxHeartbeats 800000 in
theorem hl_push_ok {l : Launch} {G : ks_G} {d : Nat} {S : ks_S} (htr : l.stackTraces = false) {o : Nat} {x1 : Int32} {fs : List Value} {P1 : Option Value → ks_S → Prop} (h0 : S.2.2 0 = some (.inr (14, fs))) (hM : ks_P l G yX11_push mX11_push d [.ref 0, .int x1] S P1) (hz : ∀ z S1, P1 z S1 → ∃ (v : Int32) (f : Nat → Int64), z = some (.int v) ∧ S1.2.2 o = some (kJ 1 f)) : kl_P l G yL_push mL_push hL_push (d + 1) [.ref 0, .int x1, .ref o] S (fun z S' => z = some (.int (nI 0)) ∧ ∃ (v : Int32) (S1 : ks_S) (f : Nat → Int64), P1 (some (.int v)) S1 ∧ S1.2.2 o = some (kJ 1 f) ∧ S' = ks_set S1 o (kJ 1 (va_up f 0 v.toInt64))) := by
  refine kl_of htr (by decide) rfl rfl (Nat.le_of_ble_eq_true rfl) ?_
  show ks_L l G (hL_push, 0, fun _ => 0) mL_push (d + 1) 0 [(0, .ref 0), (1, .int x1), (2, .ref o)] [] S _
  refine kl_aload_n dL_push_0 rfl rfl ?_
  refine kl_iconst (x := nI 0) dL_push_1 (by decide) rfl ?_
  refine kl_aload_n dL_push_2 rfl rfl ?_
  refine kl_iload_n dL_push_3 rfl rfl ?_
  refine kl_callV (n := 1) (M' := mX11_push) hM h0 cl_X11 rfl kx_1306 kx_1307 kx_1308 kx_1 kx_1309 (by decide +kernel) rfl (by decide) (Nat.le_of_ble_eq_true rfl) rfl dL_push_4 rfl (fun z1 S1 y1 => ?_)
  obtain ⟨v, f, rfl, e1⟩ := hz z1 S1 y1
  refine kl_i2l dL_push_7 rfl ?_
  refine kl_lastN (i := 0) e1 rfl (by decide) (by decide) dL_push_8 rfl ?_
  refine kl_goto (tgt := 21) dL_push_9 (by decide) ?_
  refine kl_iconst (x := nI 0) dL_push_21 (by decide) rfl ?_
  refine ks_X.law (ks_iret rfl dL_push_22 ?_)
  exact ⟨rfl, v, S1, f, y1, e1, rfl⟩
set_option maxRecDepth 100000 in
set_option maxHeartbeats 800000 in
theorem hl_push_no1 {l : Launch} {G : ks_G} {d : Nat} {S : ks_S} (htr : l.stackTraces = false) {o : Nat} {x1 : Int32} {fs : List Value} {P1 : Option Value → ks_S → Prop} (h0 : S.2.2 0 = some (.inr (14, fs))) (hM : kt_P l G yX11_push mX11_push d [.ref 0, .int x1] S P1) (hk : ∀ z S1, P1 z S1 → z = some (.int (nI 1))) : kl_P l G yL_push mL_push hL_push (d + 1) [.ref 0, .int x1, .ref o] S (fun z S' => z = some (.int (nI 1)) ∧ ∃ z1, P1 z1 S') := by
  refine kl_of htr (by decide) rfl rfl (Nat.le_of_ble_eq_true rfl) ?_
  show ks_L l G (hL_push, 0, fun _ => 0) mL_push (d + 1) 0 [(0, .ref 0), (1, .int x1), (2, .ref o)] [] S _
  refine kl_aload_n dL_push_0 rfl rfl ?_
  refine kl_iconst (x := nI 0) dL_push_1 (by decide) rfl ?_
  refine kl_aload_n dL_push_2 rfl rfl ?_
  refine kl_iload_n dL_push_3 rfl rfl ?_
  refine kl_catchV (n := 1) (M' := mX11_push) (k9 := 1) (E := "java/lang/IllegalArgumentException") [] ⟨0, 9, 12, 19⟩ [⟨0, 9, 15, 43⟩, ⟨0, 9, 18, 13⟩] hM hk rfl h0 cl_X11 rfl kx_1306 kx_1307 kx_1308 kx_1 kx_1309 (by decide +kernel) rfl (by decide) (Nat.le_of_ble_eq_true rfl) rfl dL_push_4 rfl (fun z hz => by cases hz) rfl (by decide) kx_1154 kx_157 (kl_as_n dL_push_12 (by decide) rfl) (fun v1 S1 y1 => ?_)
  refine kl_iconst (x := nI 1) dL_push_13 (by decide) rfl ?_
  refine ks_X.law (ks_iret rfl dL_push_14 ?_)
  exact ⟨rfl, v1, y1⟩
set_option maxRecDepth 100000 in
set_option maxHeartbeats 800000 in
theorem hl_push_no2 {l : Launch} {G : ks_G} {d : Nat} {S : ks_S} (htr : l.stackTraces = false) {o : Nat} {x1 : Int32} {fs : List Value} {P1 : Option Value → ks_S → Prop} (h0 : S.2.2 0 = some (.inr (14, fs))) (hM : kt_P l G yX11_push mX11_push d [.ref 0, .int x1] S P1) (hk : ∀ z S1, P1 z S1 → z = some (.int (nI 2))) : kl_P l G yL_push mL_push hL_push (d + 1) [.ref 0, .int x1, .ref o] S (fun z S' => z = some (.int (nI 2)) ∧ ∃ z1, P1 z1 S') := by
  refine kl_of htr (by decide) rfl rfl (Nat.le_of_ble_eq_true rfl) ?_
  show ks_L l G (hL_push, 0, fun _ => 0) mL_push (d + 1) 0 [(0, .ref 0), (1, .int x1), (2, .ref o)] [] S _
  refine kl_aload_n dL_push_0 rfl rfl ?_
  refine kl_iconst (x := nI 0) dL_push_1 (by decide) rfl ?_
  refine kl_aload_n dL_push_2 rfl rfl ?_
  refine kl_iload_n dL_push_3 rfl rfl ?_
  refine kl_catchV (n := 1) (M' := mX11_push) (k9 := 2) (E := "java/lang/IllegalStateException") [⟨0, 9, 12, 19⟩] ⟨0, 9, 15, 43⟩ [⟨0, 9, 18, 13⟩] hM hk rfl h0 cl_X11 rfl kx_1306 kx_1307 kx_1308 kx_1 kx_1309 (by decide +kernel) rfl (by decide) (Nat.le_of_ble_eq_true rfl) rfl dL_push_4 rfl (fun z hz => by
      simp only [List.mem_cons, List.not_mem_nil, or_false] at hz
      rcases hz with rfl
      · exact ⟨(by decide : (19 : Nat) ≠ 0), _, kx_1154, fun U h => h.2.2.1⟩) rfl (by decide) kx_1272 kx_1283 (kl_as_n dL_push_15 (by decide) rfl) (fun v1 S1 y1 => ?_)
  refine kl_iconst (x := nI 2) dL_push_16 (by decide) rfl ?_
  refine ks_X.law (ks_iret rfl dL_push_17 ?_)
  exact ⟨rfl, v1, y1⟩
set_option maxRecDepth 100000 in
set_option maxHeartbeats 800000 in
theorem hl_push_no0 {l : Launch} {G : ks_G} {d : Nat} {S : ks_S} (htr : l.stackTraces = false) {o : Nat} {x1 : Int32} {fs : List Value} {P1 : Option Value → ks_S → Prop} (h0 : S.2.2 0 = some (.inr (14, fs))) (hM : kt_P l G yX11_push mX11_push d [.ref 0, .int x1] S P1) (hk : ∀ z S1, P1 z S1 → z = some (.int (nI 0))) : kl_P l G yL_push mL_push hL_push (d + 1) [.ref 0, .int x1, .ref o] S (fun z S' => z = some (.int (nI 3)) ∧ ∃ z1, P1 z1 S') := by
  refine kl_of htr (by decide) rfl rfl (Nat.le_of_ble_eq_true rfl) ?_
  show ks_L l G (hL_push, 0, fun _ => 0) mL_push (d + 1) 0 [(0, .ref 0), (1, .int x1), (2, .ref o)] [] S _
  refine kl_aload_n dL_push_0 rfl rfl ?_
  refine kl_iconst (x := nI 0) dL_push_1 (by decide) rfl ?_
  refine kl_aload_n dL_push_2 rfl rfl ?_
  refine kl_iload_n dL_push_3 rfl rfl ?_
  refine kl_catchV (n := 1) (M' := mX11_push) (k9 := 0) (E := "java/lang/IndexOutOfBoundsException") [⟨0, 9, 12, 19⟩, ⟨0, 9, 15, 43⟩] ⟨0, 9, 18, 13⟩ [] hM hk rfl h0 cl_X11 rfl kx_1306 kx_1307 kx_1308 kx_1 kx_1309 (by decide +kernel) rfl (by decide) (Nat.le_of_ble_eq_true rfl) rfl dL_push_4 rfl (fun z hz => by
      simp only [List.mem_cons, List.not_mem_nil, or_false] at hz
      rcases hz with rfl | rfl
      · exact ⟨(by decide : (19 : Nat) ≠ 0), _, kx_1154, fun U h => h.1⟩
      · exact ⟨(by decide : (43 : Nat) ≠ 0), _, kx_1272, fun U h => h.2.1⟩) rfl (by decide) kx_1118 kx_1125 (kl_as_n dL_push_18 (by decide) rfl) (fun v1 S1 y1 => ?_)
  refine kl_iconst (x := nI 3) dL_push_19 (by decide) rfl ?_
  refine ks_X.law (ks_iret rfl dL_push_20 ?_)
  exact ⟨rfl, v1, y1⟩
set_option maxRecDepth 100000 in
set_option maxHeartbeats 800000 in
theorem hl_sign_ok {l : Launch} {G : ks_G} {d : Nat} {S : ks_S} (htr : l.stackTraces = false) {o : Nat} {x1 : Int32} {x2 : Int32} {x3 : Int32} {fs : List Value} {P1 : Option Value → ks_S → Prop} (h0 : S.2.2 0 = some (.inr (14, fs))) (hM : ks_P l G yX11_sign mX11_sign d [.ref 0, .int x1, .int x2, .int x3] S P1) (hz : ∀ z S1, P1 z S1 → ∃ (v : Int32) (f : Nat → Int64), z = some (.int v) ∧ S1.2.2 o = some (kJ 1 f)) : kl_P l G yL_sign mL_sign hL_sign (d + 1) [.ref 0, .int x1, .int x2, .int x3, .ref o] S (fun z S' => z = some (.int (nI 0)) ∧ ∃ (v : Int32) (S1 : ks_S) (f : Nat → Int64), P1 (some (.int v)) S1 ∧ S1.2.2 o = some (kJ 1 f) ∧ S' = ks_set S1 o (kJ 1 (va_up f 0 v.toInt64))) := by
  refine kl_of htr (by decide) rfl rfl (Nat.le_of_ble_eq_true rfl) ?_
  show ks_L l G (hL_sign, 0, fun _ => 0) mL_sign (d + 1) 0 [(0, .ref 0), (1, .int x1), (2, .int x2), (3, .int x3), (4, .ref o)] [] S _
  refine kl_aload dL_sign_0 rfl rfl ?_
  refine kl_iconst (x := nI 0) dL_sign_2 (by decide) rfl ?_
  refine kl_aload_n dL_sign_3 rfl rfl ?_
  refine kl_iload_n dL_sign_4 rfl rfl ?_
  refine kl_iload_n dL_sign_5 rfl rfl ?_
  refine kl_iload_n dL_sign_6 rfl rfl ?_
  refine kl_callV (n := 3) (M' := mX11_sign) hM h0 cl_X11 rfl kx_1321 kx_1322 kx_1323 kx_1 kx_1324 (by decide +kernel) rfl (by decide) (Nat.le_of_ble_eq_true rfl) rfl dL_sign_7 rfl (fun z1 S1 y1 => ?_)
  obtain ⟨v, f, rfl, e1⟩ := hz z1 S1 y1
  refine kl_i2l dL_sign_10 rfl ?_
  refine kl_lastN (i := 0) e1 rfl (by decide) (by decide) dL_sign_11 rfl ?_
  refine kl_goto (tgt := 27) dL_sign_12 (by decide) ?_
  refine kl_iconst (x := nI 0) dL_sign_27 (by decide) rfl ?_
  refine ks_X.law (ks_iret rfl dL_sign_28 ?_)
  exact ⟨rfl, v, S1, f, y1, e1, rfl⟩
set_option maxRecDepth 100000 in
set_option maxHeartbeats 800000 in
theorem hl_sign_no1 {l : Launch} {G : ks_G} {d : Nat} {S : ks_S} (htr : l.stackTraces = false) {o : Nat} {x1 : Int32} {x2 : Int32} {x3 : Int32} {fs : List Value} {P1 : Option Value → ks_S → Prop} (h0 : S.2.2 0 = some (.inr (14, fs))) (hM : kt_P l G yX11_sign mX11_sign d [.ref 0, .int x1, .int x2, .int x3] S P1) (hk : ∀ z S1, P1 z S1 → z = some (.int (nI 1))) : kl_P l G yL_sign mL_sign hL_sign (d + 1) [.ref 0, .int x1, .int x2, .int x3, .ref o] S (fun z S' => z = some (.int (nI 1)) ∧ ∃ z1, P1 z1 S') := by
  refine kl_of htr (by decide) rfl rfl (Nat.le_of_ble_eq_true rfl) ?_
  show ks_L l G (hL_sign, 0, fun _ => 0) mL_sign (d + 1) 0 [(0, .ref 0), (1, .int x1), (2, .int x2), (3, .int x3), (4, .ref o)] [] S _
  refine kl_aload dL_sign_0 rfl rfl ?_
  refine kl_iconst (x := nI 0) dL_sign_2 (by decide) rfl ?_
  refine kl_aload_n dL_sign_3 rfl rfl ?_
  refine kl_iload_n dL_sign_4 rfl rfl ?_
  refine kl_iload_n dL_sign_5 rfl rfl ?_
  refine kl_iload_n dL_sign_6 rfl rfl ?_
  refine kl_catchV (n := 3) (M' := mX11_sign) (k9 := 1) (E := "java/lang/IllegalArgumentException") [] ⟨0, 12, 15, 19⟩ [⟨0, 12, 19, 43⟩, ⟨0, 12, 23, 13⟩] hM hk rfl h0 cl_X11 rfl kx_1321 kx_1322 kx_1323 kx_1 kx_1324 (by decide +kernel) rfl (by decide) (Nat.le_of_ble_eq_true rfl) rfl dL_sign_7 rfl (fun z hz => by cases hz) rfl (by decide) kx_1154 kx_157 (kl_as dL_sign_15 (by decide) rfl) (fun v1 S1 y1 => ?_)
  refine kl_iconst (x := nI 1) dL_sign_17 (by decide) rfl ?_
  refine ks_X.law (ks_iret rfl dL_sign_18 ?_)
  exact ⟨rfl, v1, y1⟩
set_option maxRecDepth 100000 in
set_option maxHeartbeats 800000 in
theorem hl_sign_no2 {l : Launch} {G : ks_G} {d : Nat} {S : ks_S} (htr : l.stackTraces = false) {o : Nat} {x1 : Int32} {x2 : Int32} {x3 : Int32} {fs : List Value} {P1 : Option Value → ks_S → Prop} (h0 : S.2.2 0 = some (.inr (14, fs))) (hM : kt_P l G yX11_sign mX11_sign d [.ref 0, .int x1, .int x2, .int x3] S P1) (hk : ∀ z S1, P1 z S1 → z = some (.int (nI 2))) : kl_P l G yL_sign mL_sign hL_sign (d + 1) [.ref 0, .int x1, .int x2, .int x3, .ref o] S (fun z S' => z = some (.int (nI 2)) ∧ ∃ z1, P1 z1 S') := by
  refine kl_of htr (by decide) rfl rfl (Nat.le_of_ble_eq_true rfl) ?_
  show ks_L l G (hL_sign, 0, fun _ => 0) mL_sign (d + 1) 0 [(0, .ref 0), (1, .int x1), (2, .int x2), (3, .int x3), (4, .ref o)] [] S _
  refine kl_aload dL_sign_0 rfl rfl ?_
  refine kl_iconst (x := nI 0) dL_sign_2 (by decide) rfl ?_
  refine kl_aload_n dL_sign_3 rfl rfl ?_
  refine kl_iload_n dL_sign_4 rfl rfl ?_
  refine kl_iload_n dL_sign_5 rfl rfl ?_
  refine kl_iload_n dL_sign_6 rfl rfl ?_
  refine kl_catchV (n := 3) (M' := mX11_sign) (k9 := 2) (E := "java/lang/IllegalStateException") [⟨0, 12, 15, 19⟩] ⟨0, 12, 19, 43⟩ [⟨0, 12, 23, 13⟩] hM hk rfl h0 cl_X11 rfl kx_1321 kx_1322 kx_1323 kx_1 kx_1324 (by decide +kernel) rfl (by decide) (Nat.le_of_ble_eq_true rfl) rfl dL_sign_7 rfl (fun z hz => by
      simp only [List.mem_cons, List.not_mem_nil, or_false] at hz
      rcases hz with rfl
      · exact ⟨(by decide : (19 : Nat) ≠ 0), _, kx_1154, fun U h => h.2.2.1⟩) rfl (by decide) kx_1272 kx_1283 (kl_as dL_sign_19 (by decide) rfl) (fun v1 S1 y1 => ?_)
  refine kl_iconst (x := nI 2) dL_sign_21 (by decide) rfl ?_
  refine ks_X.law (ks_iret rfl dL_sign_22 ?_)
  exact ⟨rfl, v1, y1⟩
set_option maxRecDepth 100000 in
set_option maxHeartbeats 800000 in
theorem hl_sign_no0 {l : Launch} {G : ks_G} {d : Nat} {S : ks_S} (htr : l.stackTraces = false) {o : Nat} {x1 : Int32} {x2 : Int32} {x3 : Int32} {fs : List Value} {P1 : Option Value → ks_S → Prop} (h0 : S.2.2 0 = some (.inr (14, fs))) (hM : kt_P l G yX11_sign mX11_sign d [.ref 0, .int x1, .int x2, .int x3] S P1) (hk : ∀ z S1, P1 z S1 → z = some (.int (nI 0))) : kl_P l G yL_sign mL_sign hL_sign (d + 1) [.ref 0, .int x1, .int x2, .int x3, .ref o] S (fun z S' => z = some (.int (nI 3)) ∧ ∃ z1, P1 z1 S') := by
  refine kl_of htr (by decide) rfl rfl (Nat.le_of_ble_eq_true rfl) ?_
  show ks_L l G (hL_sign, 0, fun _ => 0) mL_sign (d + 1) 0 [(0, .ref 0), (1, .int x1), (2, .int x2), (3, .int x3), (4, .ref o)] [] S _
  refine kl_aload dL_sign_0 rfl rfl ?_
  refine kl_iconst (x := nI 0) dL_sign_2 (by decide) rfl ?_
  refine kl_aload_n dL_sign_3 rfl rfl ?_
  refine kl_iload_n dL_sign_4 rfl rfl ?_
  refine kl_iload_n dL_sign_5 rfl rfl ?_
  refine kl_iload_n dL_sign_6 rfl rfl ?_
  refine kl_catchV (n := 3) (M' := mX11_sign) (k9 := 0) (E := "java/lang/IndexOutOfBoundsException") [⟨0, 12, 15, 19⟩, ⟨0, 12, 19, 43⟩] ⟨0, 12, 23, 13⟩ [] hM hk rfl h0 cl_X11 rfl kx_1321 kx_1322 kx_1323 kx_1 kx_1324 (by decide +kernel) rfl (by decide) (Nat.le_of_ble_eq_true rfl) rfl dL_sign_7 rfl (fun z hz => by
      simp only [List.mem_cons, List.not_mem_nil, or_false] at hz
      rcases hz with rfl | rfl
      · exact ⟨(by decide : (19 : Nat) ≠ 0), _, kx_1154, fun U h => h.1⟩
      · exact ⟨(by decide : (43 : Nat) ≠ 0), _, kx_1272, fun U h => h.2.1⟩) rfl (by decide) kx_1118 kx_1125 (kl_as dL_sign_23 (by decide) rfl) (fun v1 S1 y1 => ?_)
  refine kl_iconst (x := nI 3) dL_sign_25 (by decide) rfl ?_
  refine ks_X.law (ks_iret rfl dL_sign_26 ?_)
  exact ⟨rfl, v1, y1⟩
set_option maxRecDepth 100000 in
set_option maxHeartbeats 800000 in
theorem hl_seal_ok {l : Launch} {G : ks_G} {d : Nat} {S : ks_S} (htr : l.stackTraces = false) {o : Nat} {x1 : Int32} {fs : List Value} {P1 : Option Value → ks_S → Prop} (h0 : S.2.2 0 = some (.inr (14, fs))) (hM : ks_P l G yX11_seal mX11_seal d [.ref 0, .int x1] S P1) (hz : ∀ z S1, P1 z S1 → ∃ (v : Int32) (f : Nat → Int64), z = some (.int v) ∧ S1.2.2 o = some (kJ 1 f)) : kl_P l G yL_seal mL_seal hL_seal (d + 1) [.ref 0, .int x1, .ref o] S (fun z S' => z = some (.int (nI 0)) ∧ ∃ (v : Int32) (S1 : ks_S) (f : Nat → Int64), P1 (some (.int v)) S1 ∧ S1.2.2 o = some (kJ 1 f) ∧ S' = ks_set S1 o (kJ 1 (va_up f 0 v.toInt64))) := by
  refine kl_of htr (by decide) rfl rfl (Nat.le_of_ble_eq_true rfl) ?_
  show ks_L l G (hL_seal, 0, fun _ => 0) mL_seal (d + 1) 0 [(0, .ref 0), (1, .int x1), (2, .ref o)] [] S _
  refine kl_aload_n dL_seal_0 rfl rfl ?_
  refine kl_iconst (x := nI 0) dL_seal_1 (by decide) rfl ?_
  refine kl_aload_n dL_seal_2 rfl rfl ?_
  refine kl_iload_n dL_seal_3 rfl rfl ?_
  refine kl_callV (n := 1) (M' := mX11_seal) hM h0 cl_X11 rfl kx_1388 kx_1389 kx_1390 kx_1 kx_1391 (by decide +kernel) rfl (by decide) (Nat.le_of_ble_eq_true rfl) rfl dL_seal_4 rfl (fun z1 S1 y1 => ?_)
  obtain ⟨v, f, rfl, e1⟩ := hz z1 S1 y1
  refine kl_i2l dL_seal_7 rfl ?_
  refine kl_lastN (i := 0) e1 rfl (by decide) (by decide) dL_seal_8 rfl ?_
  refine kl_goto (tgt := 18) dL_seal_9 (by decide) ?_
  refine kl_iconst (x := nI 0) dL_seal_18 (by decide) rfl ?_
  refine ks_X.law (ks_iret rfl dL_seal_19 ?_)
  exact ⟨rfl, v, S1, f, y1, e1, rfl⟩
set_option maxRecDepth 100000 in
set_option maxHeartbeats 800000 in
theorem hl_seal_no1 {l : Launch} {G : ks_G} {d : Nat} {S : ks_S} (htr : l.stackTraces = false) {o : Nat} {x1 : Int32} {fs : List Value} {P1 : Option Value → ks_S → Prop} (h0 : S.2.2 0 = some (.inr (14, fs))) (hM : kt_P l G yX11_seal mX11_seal d [.ref 0, .int x1] S P1) (hk : ∀ z S1, P1 z S1 → z = some (.int (nI 1))) : kl_P l G yL_seal mL_seal hL_seal (d + 1) [.ref 0, .int x1, .ref o] S (fun z S' => z = some (.int (nI 1)) ∧ ∃ z1, P1 z1 S') := by
  refine kl_of htr (by decide) rfl rfl (Nat.le_of_ble_eq_true rfl) ?_
  show ks_L l G (hL_seal, 0, fun _ => 0) mL_seal (d + 1) 0 [(0, .ref 0), (1, .int x1), (2, .ref o)] [] S _
  refine kl_aload_n dL_seal_0 rfl rfl ?_
  refine kl_iconst (x := nI 0) dL_seal_1 (by decide) rfl ?_
  refine kl_aload_n dL_seal_2 rfl rfl ?_
  refine kl_iload_n dL_seal_3 rfl rfl ?_
  refine kl_catchV (n := 1) (M' := mX11_seal) (k9 := 1) (E := "java/lang/IllegalArgumentException") [] ⟨0, 9, 12, 19⟩ [⟨0, 9, 15, 13⟩] hM hk rfl h0 cl_X11 rfl kx_1388 kx_1389 kx_1390 kx_1 kx_1391 (by decide +kernel) rfl (by decide) (Nat.le_of_ble_eq_true rfl) rfl dL_seal_4 rfl (fun z hz => by cases hz) rfl (by decide) kx_1154 kx_157 (kl_as_n dL_seal_12 (by decide) rfl) (fun v1 S1 y1 => ?_)
  refine kl_iconst (x := nI 1) dL_seal_13 (by decide) rfl ?_
  refine ks_X.law (ks_iret rfl dL_seal_14 ?_)
  exact ⟨rfl, v1, y1⟩
set_option maxRecDepth 100000 in
set_option maxHeartbeats 800000 in
theorem hl_seal_no0 {l : Launch} {G : ks_G} {d : Nat} {S : ks_S} (htr : l.stackTraces = false) {o : Nat} {x1 : Int32} {fs : List Value} {P1 : Option Value → ks_S → Prop} (h0 : S.2.2 0 = some (.inr (14, fs))) (hM : kt_P l G yX11_seal mX11_seal d [.ref 0, .int x1] S P1) (hk : ∀ z S1, P1 z S1 → z = some (.int (nI 0))) : kl_P l G yL_seal mL_seal hL_seal (d + 1) [.ref 0, .int x1, .ref o] S (fun z S' => z = some (.int (nI 2)) ∧ ∃ z1, P1 z1 S') := by
  refine kl_of htr (by decide) rfl rfl (Nat.le_of_ble_eq_true rfl) ?_
  show ks_L l G (hL_seal, 0, fun _ => 0) mL_seal (d + 1) 0 [(0, .ref 0), (1, .int x1), (2, .ref o)] [] S _
  refine kl_aload_n dL_seal_0 rfl rfl ?_
  refine kl_iconst (x := nI 0) dL_seal_1 (by decide) rfl ?_
  refine kl_aload_n dL_seal_2 rfl rfl ?_
  refine kl_iload_n dL_seal_3 rfl rfl ?_
  refine kl_catchV (n := 1) (M' := mX11_seal) (k9 := 0) (E := "java/lang/IndexOutOfBoundsException") [⟨0, 9, 12, 19⟩] ⟨0, 9, 15, 13⟩ [] hM hk rfl h0 cl_X11 rfl kx_1388 kx_1389 kx_1390 kx_1 kx_1391 (by decide +kernel) rfl (by decide) (Nat.le_of_ble_eq_true rfl) rfl dL_seal_4 rfl (fun z hz => by
      simp only [List.mem_cons, List.not_mem_nil, or_false] at hz
      rcases hz with rfl
      · exact ⟨(by decide : (19 : Nat) ≠ 0), _, kx_1154, fun U h => h.1⟩) rfl (by decide) kx_1118 kx_1125 (kl_as_n dL_seal_15 (by decide) rfl) (fun v1 S1 y1 => ?_)
  refine kl_iconst (x := nI 2) dL_seal_16 (by decide) rfl ?_
  refine ks_X.law (ks_iret rfl dL_seal_17 ?_)
  exact ⟨rfl, v1, y1⟩
set_option maxRecDepth 100000 in
set_option maxHeartbeats 800000 in
theorem hl_judge_ok {l : Launch} {G : ks_G} {d : Nat} {S : ks_S} (htr : l.stackTraces = false) {o : Nat}  {fs : List Value} {P1 : Option Value → ks_S → Prop} (h0 : S.2.2 0 = some (.inr (14, fs))) (hM : ks_P l G yX11_judge mX11_judge d [.ref 0] S P1) (hz : ∀ z S1, P1 z S1 → ∃ (v : Int32) (f : Nat → Int64), z = some (.int v) ∧ S1.2.2 o = some (kJ 1 f)) : kl_P l G yL_judge mL_judge hL_judge (d + 1) [.ref 0, .ref o] S (fun z S' => z = some (.int (nI 0)) ∧ ∃ (v : Int32) (S1 : ks_S) (f : Nat → Int64), P1 (some (.int v)) S1 ∧ S1.2.2 o = some (kJ 1 f) ∧ S' = ks_set S1 o (kJ 1 (va_up f 0 v.toInt64))) := by
  refine kl_of htr (by decide) rfl rfl (Nat.le_of_ble_eq_true rfl) ?_
  show ks_L l G (hL_judge, 0, fun _ => 0) mL_judge (d + 1) 0 [(0, .ref 0), (1, .ref o)] [] S _
  refine kl_aload_n dL_judge_0 rfl rfl ?_
  refine kl_iconst (x := nI 0) dL_judge_1 (by decide) rfl ?_
  refine kl_aload_n dL_judge_2 rfl rfl ?_
  refine kl_callV (n := 0) (M' := mX11_judge) hM h0 cl_X11 rfl kx_1423 kx_1424 kx_1425 kx_1 kx_1426 (by decide +kernel) rfl (by decide) (Nat.le_of_ble_eq_true rfl) rfl dL_judge_3 rfl (fun z1 S1 y1 => ?_)
  obtain ⟨v, f, rfl, e1⟩ := hz z1 S1 y1
  refine kl_i2l dL_judge_6 rfl ?_
  refine kl_lastN (i := 0) e1 rfl (by decide) (by decide) dL_judge_7 rfl ?_
  refine kl_goto (tgt := 17) dL_judge_8 (by decide) ?_
  refine kl_iconst (x := nI 0) dL_judge_17 (by decide) rfl ?_
  refine ks_X.law (ks_iret rfl dL_judge_18 ?_)
  exact ⟨rfl, v, S1, f, y1, e1, rfl⟩
set_option maxRecDepth 100000 in
set_option maxHeartbeats 800000 in
theorem hl_judge_no3 {l : Launch} {G : ks_G} {d : Nat} {S : ks_S} (htr : l.stackTraces = false) {o : Nat}  {fs : List Value} {P1 : Option Value → ks_S → Prop} (h0 : S.2.2 0 = some (.inr (14, fs))) (hM : kt_P l G yX11_judge mX11_judge d [.ref 0] S P1) (hk : ∀ z S1, P1 z S1 → z = some (.int (nI 3))) : kl_P l G yL_judge mL_judge hL_judge (d + 1) [.ref 0, .ref o] S (fun z S' => z = some (.int (nI 1)) ∧ ∃ z1, P1 z1 S') := by
  refine kl_of htr (by decide) rfl rfl (Nat.le_of_ble_eq_true rfl) ?_
  show ks_L l G (hL_judge, 0, fun _ => 0) mL_judge (d + 1) 0 [(0, .ref 0), (1, .ref o)] [] S _
  refine kl_aload_n dL_judge_0 rfl rfl ?_
  refine kl_iconst (x := nI 0) dL_judge_1 (by decide) rfl ?_
  refine kl_aload_n dL_judge_2 rfl rfl ?_
  refine kl_catchV (n := 0) (M' := mX11_judge) (k9 := 3) (E := "java/lang/UnsupportedOperationException") [] ⟨0, 8, 11, 63⟩ [⟨0, 8, 14, 13⟩] hM hk rfl h0 cl_X11 rfl kx_1423 kx_1424 kx_1425 kx_1 kx_1426 (by decide +kernel) rfl (by decide) (Nat.le_of_ble_eq_true rfl) rfl dL_judge_3 rfl (fun z hz => by cases hz) rfl (by decide) kx_1422 kx_1502 (kl_as_n dL_judge_11 (by decide) rfl) (fun v1 S1 y1 => ?_)
  refine kl_iconst (x := nI 1) dL_judge_12 (by decide) rfl ?_
  refine ks_X.law (ks_iret rfl dL_judge_13 ?_)
  exact ⟨rfl, v1, y1⟩
set_option maxRecDepth 100000 in
set_option maxHeartbeats 800000 in
theorem hl_judge_no0 {l : Launch} {G : ks_G} {d : Nat} {S : ks_S} (htr : l.stackTraces = false) {o : Nat}  {fs : List Value} {P1 : Option Value → ks_S → Prop} (h0 : S.2.2 0 = some (.inr (14, fs))) (hM : kt_P l G yX11_judge mX11_judge d [.ref 0] S P1) (hk : ∀ z S1, P1 z S1 → z = some (.int (nI 0))) : kl_P l G yL_judge mL_judge hL_judge (d + 1) [.ref 0, .ref o] S (fun z S' => z = some (.int (nI 2)) ∧ ∃ z1, P1 z1 S') := by
  refine kl_of htr (by decide) rfl rfl (Nat.le_of_ble_eq_true rfl) ?_
  show ks_L l G (hL_judge, 0, fun _ => 0) mL_judge (d + 1) 0 [(0, .ref 0), (1, .ref o)] [] S _
  refine kl_aload_n dL_judge_0 rfl rfl ?_
  refine kl_iconst (x := nI 0) dL_judge_1 (by decide) rfl ?_
  refine kl_aload_n dL_judge_2 rfl rfl ?_
  refine kl_catchV (n := 0) (M' := mX11_judge) (k9 := 0) (E := "java/lang/IndexOutOfBoundsException") [⟨0, 8, 11, 63⟩] ⟨0, 8, 14, 13⟩ [] hM hk rfl h0 cl_X11 rfl kx_1423 kx_1424 kx_1425 kx_1 kx_1426 (by decide +kernel) rfl (by decide) (Nat.le_of_ble_eq_true rfl) rfl dL_judge_3 rfl (fun z hz => by
      simp only [List.mem_cons, List.not_mem_nil, or_false] at hz
      rcases hz with rfl
      · exact ⟨(by decide : (63 : Nat) ≠ 0), _, kx_1422, fun U h => h.2.2.2⟩) rfl (by decide) kx_1118 kx_1125 (kl_as_n dL_judge_14 (by decide) rfl) (fun v1 S1 y1 => ?_)
  refine kl_iconst (x := nI 2) dL_judge_15 (by decide) rfl ?_
  refine ks_X.law (ks_iret rfl dL_judge_16 ?_)
  exact ⟨rfl, v1, y1⟩
set_option maxRecDepth 100000 in
set_option maxHeartbeats 800000 in
theorem hl_tell_ok {l : Launch} {G : ks_G} {d : Nat} {S : ks_S} (htr : l.stackTraces = false) {o : Nat} {x1 : Int32} {fs : List Value} {P1 : Option Value → ks_S → Prop} (h0 : S.2.2 0 = some (.inr (14, fs))) (hM : ks_P l G yX11_tell mX11_tell d [.ref 0, .int x1] S P1) (hz : ∀ z S1, P1 z S1 → ∃ (v : Int32) (f : Nat → Int64), z = some (.int v) ∧ S1.2.2 o = some (kJ 1 f)) : kl_P l G yL_tell mL_tell hL_tell (d + 1) [.ref 0, .int x1, .ref o] S (fun z S' => z = some (.int (nI 0)) ∧ ∃ (v : Int32) (S1 : ks_S) (f : Nat → Int64), P1 (some (.int v)) S1 ∧ S1.2.2 o = some (kJ 1 f) ∧ S' = ks_set S1 o (kJ 1 (va_up f 0 v.toInt64))) := by
  refine kl_of htr (by decide) rfl rfl (Nat.le_of_ble_eq_true rfl) ?_
  show ks_L l G (hL_tell, 0, fun _ => 0) mL_tell (d + 1) 0 [(0, .ref 0), (1, .int x1), (2, .ref o)] [] S _
  refine kl_aload_n dL_tell_0 rfl rfl ?_
  refine kl_iconst (x := nI 0) dL_tell_1 (by decide) rfl ?_
  refine kl_aload_n dL_tell_2 rfl rfl ?_
  refine kl_iload_n dL_tell_3 rfl rfl ?_
  refine kl_callV (n := 1) (M' := mX11_tell) hM h0 cl_X11 rfl kx_1735 kx_1736 kx_1737 kx_1 kx_1738 (by decide +kernel) rfl (by decide) (Nat.le_of_ble_eq_true rfl) rfl dL_tell_4 rfl (fun z1 S1 y1 => ?_)
  obtain ⟨v, f, rfl, e1⟩ := hz z1 S1 y1
  refine kl_i2l dL_tell_7 rfl ?_
  refine kl_lastN (i := 0) e1 rfl (by decide) (by decide) dL_tell_8 rfl ?_
  refine kl_goto (tgt := 15) dL_tell_9 (by decide) ?_
  refine kl_iconst (x := nI 0) dL_tell_15 (by decide) rfl ?_
  refine ks_X.law (ks_iret rfl dL_tell_16 ?_)
  exact ⟨rfl, v, S1, f, y1, e1, rfl⟩
set_option maxRecDepth 100000 in
set_option maxHeartbeats 800000 in
theorem hl_tell_no1 {l : Launch} {G : ks_G} {d : Nat} {S : ks_S} (htr : l.stackTraces = false) {o : Nat} {x1 : Int32} {fs : List Value} {P1 : Option Value → ks_S → Prop} (h0 : S.2.2 0 = some (.inr (14, fs))) (hM : kt_P l G yX11_tell mX11_tell d [.ref 0, .int x1] S P1) (hk : ∀ z S1, P1 z S1 → z = some (.int (nI 1))) : kl_P l G yL_tell mL_tell hL_tell (d + 1) [.ref 0, .int x1, .ref o] S (fun z S' => z = some (.int (nI 1)) ∧ ∃ z1, P1 z1 S') := by
  refine kl_of htr (by decide) rfl rfl (Nat.le_of_ble_eq_true rfl) ?_
  show ks_L l G (hL_tell, 0, fun _ => 0) mL_tell (d + 1) 0 [(0, .ref 0), (1, .int x1), (2, .ref o)] [] S _
  refine kl_aload_n dL_tell_0 rfl rfl ?_
  refine kl_iconst (x := nI 0) dL_tell_1 (by decide) rfl ?_
  refine kl_aload_n dL_tell_2 rfl rfl ?_
  refine kl_iload_n dL_tell_3 rfl rfl ?_
  refine kl_catchV (n := 1) (M' := mX11_tell) (k9 := 1) (E := "java/lang/IllegalArgumentException") [] ⟨0, 9, 12, 19⟩ [] hM hk rfl h0 cl_X11 rfl kx_1735 kx_1736 kx_1737 kx_1 kx_1738 (by decide +kernel) rfl (by decide) (Nat.le_of_ble_eq_true rfl) rfl dL_tell_4 rfl (fun z hz => by cases hz) rfl (by decide) kx_1154 kx_157 (kl_as_n dL_tell_12 (by decide) rfl) (fun v1 S1 y1 => ?_)
  refine kl_iconst (x := nI 1) dL_tell_13 (by decide) rfl ?_
  refine ks_X.law (ks_iret rfl dL_tell_14 ?_)
  exact ⟨rfl, v1, y1⟩
set_option maxRecDepth 100000 in
set_option maxHeartbeats 800000 in
theorem hl_block_ok {l : Launch} {G : ks_G} {d : Nat} {S : ks_S} (htr : l.stackTraces = false) {o : Nat} {x1 : Int32} {x2 : Int32} {fs : List Value} {P1 : Option Value → ks_S → Prop} (h0 : S.2.2 0 = some (.inr (14, fs))) (hM : ks_P l G yX11_block mX11_block d [.ref 0, .int x1, .int x2] S P1) (hz : ∀ z S1, P1 z S1 → ∃ (v : Int64) (f : Nat → Int64), z = some (.long v) ∧ S1.2.2 o = some (kJ 1 f)) : kl_P l G yL_block mL_block hL_block (d + 1) [.ref 0, .int x1, .int x2, .ref o] S (fun z S' => z = some (.int (nI 0)) ∧ ∃ (v : Int64) (S1 : ks_S) (f : Nat → Int64), P1 (some (.long v)) S1 ∧ S1.2.2 o = some (kJ 1 f) ∧ S' = ks_set S1 o (kJ 1 (va_up f 0 v))) := by
  refine kl_of htr (by decide) rfl rfl (Nat.le_of_ble_eq_true rfl) ?_
  show ks_L l G (hL_block, 0, fun _ => 0) mL_block (d + 1) 0 [(0, .ref 0), (1, .int x1), (2, .int x2), (3, .ref o)] [] S _
  refine kl_aload_n dL_block_0 rfl rfl ?_
  refine kl_iconst (x := nI 0) dL_block_1 (by decide) rfl ?_
  refine kl_aload_n dL_block_2 rfl rfl ?_
  refine kl_iload_n dL_block_3 rfl rfl ?_
  refine kl_iload_n dL_block_4 rfl rfl ?_
  refine kl_callV (n := 2) (M' := mX11_block) hM h0 cl_X11 rfl kx_1742 kx_1743 kx_1744 kx_1 kx_1745 (by decide +kernel) rfl (by decide) (Nat.le_of_ble_eq_true rfl) rfl dL_block_5 rfl (fun z1 S1 y1 => ?_)
  obtain ⟨v, f, rfl, e1⟩ := hz z1 S1 y1
  refine kl_lastN (i := 0) e1 rfl (by decide) (by decide) dL_block_8 rfl ?_
  refine kl_goto (tgt := 16) dL_block_9 (by decide) ?_
  refine kl_iconst (x := nI 0) dL_block_16 (by decide) rfl ?_
  refine ks_X.law (ks_iret rfl dL_block_17 ?_)
  exact ⟨rfl, v, S1, f, y1, e1, rfl⟩
set_option maxRecDepth 100000 in
set_option maxHeartbeats 800000 in
theorem hl_block_no1 {l : Launch} {G : ks_G} {d : Nat} {S : ks_S} (htr : l.stackTraces = false) {o : Nat} {x1 : Int32} {x2 : Int32} {fs : List Value} {P1 : Option Value → ks_S → Prop} (h0 : S.2.2 0 = some (.inr (14, fs))) (hM : kt_P l G yX11_block mX11_block d [.ref 0, .int x1, .int x2] S P1) (hk : ∀ z S1, P1 z S1 → z = some (.int (nI 1))) : kl_P l G yL_block mL_block hL_block (d + 1) [.ref 0, .int x1, .int x2, .ref o] S (fun z S' => z = some (.int (nI 1)) ∧ ∃ z1, P1 z1 S') := by
  refine kl_of htr (by decide) rfl rfl (Nat.le_of_ble_eq_true rfl) ?_
  show ks_L l G (hL_block, 0, fun _ => 0) mL_block (d + 1) 0 [(0, .ref 0), (1, .int x1), (2, .int x2), (3, .ref o)] [] S _
  refine kl_aload_n dL_block_0 rfl rfl ?_
  refine kl_iconst (x := nI 0) dL_block_1 (by decide) rfl ?_
  refine kl_aload_n dL_block_2 rfl rfl ?_
  refine kl_iload_n dL_block_3 rfl rfl ?_
  refine kl_iload_n dL_block_4 rfl rfl ?_
  refine kl_catchV (n := 2) (M' := mX11_block) (k9 := 1) (E := "java/lang/IllegalArgumentException") [] ⟨0, 9, 12, 19⟩ [] hM hk rfl h0 cl_X11 rfl kx_1742 kx_1743 kx_1744 kx_1 kx_1745 (by decide +kernel) rfl (by decide) (Nat.le_of_ble_eq_true rfl) rfl dL_block_5 rfl (fun z hz => by cases hz) rfl (by decide) kx_1154 kx_157 (kl_as dL_block_12 (by decide) rfl) (fun v1 S1 y1 => ?_)
  refine kl_iconst (x := nI 1) dL_block_14 (by decide) rfl ?_
  refine ks_X.law (ks_iret rfl dL_block_15 ?_)
  exact ⟨rfl, v1, y1⟩
set_option maxRecDepth 100000 in
set_option maxHeartbeats 800000 in
theorem hl_coin_ok {l : Launch} {G : ks_G} {d : Nat} {S : ks_S} (htr : l.stackTraces = false) {o : Nat} {x1 : Int32} {x2 : Int32} {x3 : Int32} {fs : List Value} {P1 : Option Value → ks_S → Prop} (h0 : S.2.2 0 = some (.inr (14, fs))) (hM : ks_P l G yX11_coin mX11_coin d [.ref 0, .int x1, .int x2, .int x3] S P1) (hz : ∀ z S1, P1 z S1 → ∃ (v : Int64) (f : Nat → Int64), z = some (.long v) ∧ S1.2.2 o = some (kJ 1 f)) : kl_P l G yL_coin mL_coin hL_coin (d + 1) [.ref 0, .int x1, .int x2, .int x3, .ref o] S (fun z S' => z = some (.int (nI 0)) ∧ ∃ (v : Int64) (S1 : ks_S) (f : Nat → Int64), P1 (some (.long v)) S1 ∧ S1.2.2 o = some (kJ 1 f) ∧ S' = ks_set S1 o (kJ 1 (va_up f 0 v))) := by
  refine kl_of htr (by decide) rfl rfl (Nat.le_of_ble_eq_true rfl) ?_
  show ks_L l G (hL_coin, 0, fun _ => 0) mL_coin (d + 1) 0 [(0, .ref 0), (1, .int x1), (2, .int x2), (3, .int x3), (4, .ref o)] [] S _
  refine kl_aload dL_coin_0 rfl rfl ?_
  refine kl_iconst (x := nI 0) dL_coin_2 (by decide) rfl ?_
  refine kl_aload_n dL_coin_3 rfl rfl ?_
  refine kl_iload_n dL_coin_4 rfl rfl ?_
  refine kl_iload_n dL_coin_5 rfl rfl ?_
  refine kl_iload_n dL_coin_6 rfl rfl ?_
  refine kl_callV (n := 3) (M' := mX11_coin) hM h0 cl_X11 rfl kx_1756 kx_1757 kx_1758 kx_1 kx_1759 (by decide +kernel) rfl (by decide) (Nat.le_of_ble_eq_true rfl) rfl dL_coin_7 rfl (fun z1 S1 y1 => ?_)
  obtain ⟨v, f, rfl, e1⟩ := hz z1 S1 y1
  refine kl_lastN (i := 0) e1 rfl (by decide) (by decide) dL_coin_10 rfl ?_
  refine kl_goto (tgt := 18) dL_coin_11 (by decide) ?_
  refine kl_iconst (x := nI 0) dL_coin_18 (by decide) rfl ?_
  refine ks_X.law (ks_iret rfl dL_coin_19 ?_)
  exact ⟨rfl, v, S1, f, y1, e1, rfl⟩
set_option maxRecDepth 100000 in
set_option maxHeartbeats 800000 in
theorem hl_coin_no1 {l : Launch} {G : ks_G} {d : Nat} {S : ks_S} (htr : l.stackTraces = false) {o : Nat} {x1 : Int32} {x2 : Int32} {x3 : Int32} {fs : List Value} {P1 : Option Value → ks_S → Prop} (h0 : S.2.2 0 = some (.inr (14, fs))) (hM : kt_P l G yX11_coin mX11_coin d [.ref 0, .int x1, .int x2, .int x3] S P1) (hk : ∀ z S1, P1 z S1 → z = some (.int (nI 1))) : kl_P l G yL_coin mL_coin hL_coin (d + 1) [.ref 0, .int x1, .int x2, .int x3, .ref o] S (fun z S' => z = some (.int (nI 1)) ∧ ∃ z1, P1 z1 S') := by
  refine kl_of htr (by decide) rfl rfl (Nat.le_of_ble_eq_true rfl) ?_
  show ks_L l G (hL_coin, 0, fun _ => 0) mL_coin (d + 1) 0 [(0, .ref 0), (1, .int x1), (2, .int x2), (3, .int x3), (4, .ref o)] [] S _
  refine kl_aload dL_coin_0 rfl rfl ?_
  refine kl_iconst (x := nI 0) dL_coin_2 (by decide) rfl ?_
  refine kl_aload_n dL_coin_3 rfl rfl ?_
  refine kl_iload_n dL_coin_4 rfl rfl ?_
  refine kl_iload_n dL_coin_5 rfl rfl ?_
  refine kl_iload_n dL_coin_6 rfl rfl ?_
  refine kl_catchV (n := 3) (M' := mX11_coin) (k9 := 1) (E := "java/lang/IllegalArgumentException") [] ⟨0, 11, 14, 19⟩ [] hM hk rfl h0 cl_X11 rfl kx_1756 kx_1757 kx_1758 kx_1 kx_1759 (by decide +kernel) rfl (by decide) (Nat.le_of_ble_eq_true rfl) rfl dL_coin_7 rfl (fun z hz => by cases hz) rfl (by decide) kx_1154 kx_157 (kl_as dL_coin_14 (by decide) rfl) (fun v1 S1 y1 => ?_)
  refine kl_iconst (x := nI 1) dL_coin_16 (by decide) rfl ?_
  refine ks_X.law (ks_iret rfl dL_coin_17 ?_)
  exact ⟨rfl, v1, y1⟩
set_option maxRecDepth 100000 in
set_option maxHeartbeats 800000 in
theorem hl_word_ok {l : Launch} {G : ks_G} {d : Nat} {S : ks_S} (htr : l.stackTraces = false) {o : Nat} {x1 : Int32} {fs : List Value} {P1 : Option Value → ks_S → Prop} (h0 : S.2.2 0 = some (.inr (14, fs))) (hM : ks_P l G yX11_word mX11_word d [.ref 0, .int x1] S P1) (hz : ∀ z S1, P1 z S1 → ∃ (v : Int64) (f : Nat → Int64), z = some (.long v) ∧ S1.2.2 o = some (kJ 1 f)) : kl_P l G yL_word mL_word hL_word (d + 1) [.ref 0, .int x1, .ref o] S (fun z S' => z = some (.int (nI 0)) ∧ ∃ (v : Int64) (S1 : ks_S) (f : Nat → Int64), P1 (some (.long v)) S1 ∧ S1.2.2 o = some (kJ 1 f) ∧ S' = ks_set S1 o (kJ 1 (va_up f 0 v))) := by
  refine kl_of htr (by decide) rfl rfl (Nat.le_of_ble_eq_true rfl) ?_
  show ks_L l G (hL_word, 0, fun _ => 0) mL_word (d + 1) 0 [(0, .ref 0), (1, .int x1), (2, .ref o)] [] S _
  refine kl_aload_n dL_word_0 rfl rfl ?_
  refine kl_iconst (x := nI 0) dL_word_1 (by decide) rfl ?_
  refine kl_aload_n dL_word_2 rfl rfl ?_
  refine kl_iload_n dL_word_3 rfl rfl ?_
  refine kl_callV (n := 1) (M' := mX11_word) hM h0 cl_X11 rfl kx_1768 kx_1769 kx_1770 kx_1 kx_1771 (by decide +kernel) rfl (by decide) (Nat.le_of_ble_eq_true rfl) rfl dL_word_4 rfl (fun z1 S1 y1 => ?_)
  obtain ⟨v, f, rfl, e1⟩ := hz z1 S1 y1
  refine kl_lastN (i := 0) e1 rfl (by decide) (by decide) dL_word_7 rfl ?_
  refine kl_goto (tgt := 14) dL_word_8 (by decide) ?_
  refine kl_iconst (x := nI 0) dL_word_14 (by decide) rfl ?_
  refine ks_X.law (ks_iret rfl dL_word_15 ?_)
  exact ⟨rfl, v, S1, f, y1, e1, rfl⟩
set_option maxRecDepth 100000 in
set_option maxHeartbeats 800000 in
theorem hl_word_no0 {l : Launch} {G : ks_G} {d : Nat} {S : ks_S} (htr : l.stackTraces = false) {o : Nat} {x1 : Int32} {fs : List Value} {P1 : Option Value → ks_S → Prop} (h0 : S.2.2 0 = some (.inr (14, fs))) (hM : kt_P l G yX11_word mX11_word d [.ref 0, .int x1] S P1) (hk : ∀ z S1, P1 z S1 → z = some (.int (nI 0))) : kl_P l G yL_word mL_word hL_word (d + 1) [.ref 0, .int x1, .ref o] S (fun z S' => z = some (.int (nI 1)) ∧ ∃ z1, P1 z1 S') := by
  refine kl_of htr (by decide) rfl rfl (Nat.le_of_ble_eq_true rfl) ?_
  show ks_L l G (hL_word, 0, fun _ => 0) mL_word (d + 1) 0 [(0, .ref 0), (1, .int x1), (2, .ref o)] [] S _
  refine kl_aload_n dL_word_0 rfl rfl ?_
  refine kl_iconst (x := nI 0) dL_word_1 (by decide) rfl ?_
  refine kl_aload_n dL_word_2 rfl rfl ?_
  refine kl_iload_n dL_word_3 rfl rfl ?_
  refine kl_catchV (n := 1) (M' := mX11_word) (k9 := 0) (E := "java/lang/IndexOutOfBoundsException") [] ⟨0, 8, 11, 13⟩ [] hM hk rfl h0 cl_X11 rfl kx_1768 kx_1769 kx_1770 kx_1 kx_1771 (by decide +kernel) rfl (by decide) (Nat.le_of_ble_eq_true rfl) rfl dL_word_4 rfl (fun z hz => by cases hz) rfl (by decide) kx_1118 kx_1125 (kl_as_n dL_word_11 (by decide) rfl) (fun v1 S1 y1 => ?_)
  refine kl_iconst (x := nI 1) dL_word_12 (by decide) rfl ?_
  refine ks_X.law (ks_iret rfl dL_word_13 ?_)
  exact ⟨rfl, v1, y1⟩

/-! THE JUDGE: calls that throw, behind other calls -/
set_option maxRecDepth 100000 in
set_option maxHeartbeats 800000 in
theorem t_tell {l : Launch} {G : ks_G} {d : Nat} {S : ks_S} (htr : l.stackTraces = false) (hSB : S.1 < ks_B) {dc dp : Nat} {dt : Int64} {rs : Int32} (h0 : S.2.2 0 = some (jdO dc dp dt rs)) {x : Int32} (hw : x.toInt < 0 ∨ 6 < x.toInt) : kt_P l G yX11_tell mX11_tell (d + 9) [.ref 0, .int x] S (fun z S' => z = some (.int (nI 1)) ∧ S' = ks_one S) := by
  have h0 : S.2.2 0 = some (.inr (14, [.ref 1, .ref 3, .ref 5, .ref 7, .ref 14, .ref 20, .ref 27, .ref 41, .ref 52, .ref 53, .ref 54, .ref 55, .int (nI dc), .int (nI dp), .long dt, .int rs])) := h0
  refine kt_of htr (by decide) rfl rfl (Nat.le_of_ble_eq_true rfl) ?_
  show ks_Y l G mX11_tell (d + 9) 0 [(0, .ref 0), (1, .int x)] [] S _
  refine kt_iload_n dX11_tell_0 rfl rfl ?_
  refine kt_tableOut (tgt := 117) dX11_tell_1 hw (by decide) ?_
  exact kt_throw (k := 1) (names := ["java/lang/RuntimeException", "java/lang/Exception"]) rfl (by decide +kernel) (by decide +kernel) tw_cl1 tw_in1 tw_at1 (by decide) (Nat.le_of_ble_eq_true rfl) hSB dX11_tell_117 dX11_tell_120 dX11_tell_121 dX11_tell_124 ⟨rfl, rfl⟩
set_option maxRecDepth 100000 in
set_option maxHeartbeats 800000 in
theorem t_blockW {l : Launch} {G : ks_G} {d : Nat} {S : ks_S} (htr : l.stackTraces = false) (hSB : S.1 < ks_B) {dc dp : Nat} {dt : Int64} {rs : Int32} (h0 : S.2.2 0 = some (jdO dc dp dt rs)) {n best : Nat} {cc : Int32} {tk : Int64} {B : Nat → Bk} (hX : chX S n best cc tk B) {x : Nat} (hx : x < n) {y : Int32} (hw : y.toInt < 0 ∨ 8 < y.toInt) : kt_P l G yX11_block mX11_block (d + 9) [.ref 0, .int (nI x), .int y] S (fun z S' => z = some (.int (nI 1)) ∧ S' = ks_one S) := by
  have h0 : S.2.2 0 = some (.inr (14, [.ref 1, .ref 3, .ref 5, .ref 7, .ref 14, .ref 20, .ref 27, .ref 41, .ref 52, .ref 53, .ref 54, .ref 55, .int (nI dc), .int (nI dp), .long dt, .int rs])) := h0
  obtain ⟨hO, ⟨bf, h42, hbf⟩, hB, hn60⟩ := id hX
  refine kt_of htr (by decide) rfl rfl (Nat.le_of_ble_eq_true rfl) ?_
  show ks_Y l G mX11_block (d + 9) 0 [(0, .ref 0), (1, .int (nI x)), (2, .int y)] [] S _
  refine kt_iload_n dX11_block_0 rfl rfl ?_
  refine kt_if_ltN (tgt := 15) (by omega) dX11_block_1 (by decide) rfl ?_
  refine kt_iload_n dX11_block_4 rfl rfl ?_
  refine kt_aload_n dX11_block_5 rfl rfl ?_
  refine kt_getf (T := TX11) (kf := 7) kx_1060 rfl in_X11 cl_X11 (by decide) h0 rfl dX11_block_6 rfl ?_
  refine kt_getf (T := TX2) (kf := 3) kx_736 rfl in_X2 cl_X2 (by decide) hO rfl dX11_block_9 rfl ?_
  refine kt_icmp_ltN (tgt := 23) (by omega) (by omega) dX11_block_12 (by decide) rfl (fun h2 => ?_) (fun h2 => absurd h2 (by omega))
  refine kt_aload_n dX11_block_23 rfl rfl ?_
  refine kt_getf (T := TX11) (kf := 7) kx_1060 rfl in_X11 cl_X11 (by decide) h0 rfl dX11_block_24 rfl ?_
  refine kt_getf (T := TX2) (kf := 0) kx_730 rfl in_X2 cl_X2 (by decide) hO rfl dX11_block_27 rfl ?_
  refine kt_iload_n dX11_block_30 rfl rfl ?_
  refine kt_aaldN (i := x) (b := (bkN (B x))) (by decide) h42 rfl (by omega) (by decide) (hbf x (by omega)) dX11_block_31 rfl ?_
  refine kt_astore_n dX11_block_32 (by decide) rfl ?_
  refine kt_sub [(3, _), (0, _), (1, _), (2, _)] rfl ?_
  refine kt_iload_n dX11_block_33 rfl rfl ?_
  refine kt_tableOut (tgt := 147) dX11_block_34 hw (by decide) ?_
  exact kt_throw (k := 1) (names := ["java/lang/RuntimeException", "java/lang/Exception"]) rfl (by decide +kernel) (by decide +kernel) tw_cl1 tw_in1 tw_at1 (by decide) (Nat.le_of_ble_eq_true rfl) hSB dX11_block_147 dX11_block_150 dX11_block_151 dX11_block_154 ⟨rfl, rfl⟩
set_option maxRecDepth 100000 in
set_option maxHeartbeats 800000 in
theorem t_coinN {l : Launch} {G : ks_G} {d : Nat} {S : ks_S} (htr : l.stackTraces = false) (hSB : S.1 < ks_B) {dc dp : Nat} {dt : Int64} {rs : Int32} (h0 : S.2.2 0 = some (jdO dc dp dt rs)) {n best : Nat} {cc : Int32} {tk : Int64} {B : Nat → Bk} (hX : chX S n best cc tk B) {x t ix : Int32} (hx : x < 0) : kt_P l G yX11_coin mX11_coin (d + 9) [.ref 0, .int x, .int t, .int ix] S (fun z S' => z = some (.int (nI 1)) ∧ S' = ks_one S) := by
  have h0 : S.2.2 0 = some (.inr (14, [.ref 1, .ref 3, .ref 5, .ref 7, .ref 14, .ref 20, .ref 27, .ref 41, .ref 52, .ref 53, .ref 54, .ref 55, .int (nI dc), .int (nI dp), .long dt, .int rs])) := h0
  have hn60 := hX.2.2.2
  refine kt_of htr (by decide) rfl rfl (Nat.le_of_ble_eq_true rfl) ?_
  show ks_Y l G mX11_coin (d + 9) 0 [(0, .ref 0), (1, .int x), (2, .int t), (3, .int ix)] [] S _
  refine kt_iload_n dX11_coin_0 rfl rfl ?_
  refine kt_if_lt (tgt := 13) dX11_coin_1 (by decide) rfl (fun _ => ?_) (fun h => absurd hx h)
  exact kt_throw (k := 1) (names := ["java/lang/RuntimeException", "java/lang/Exception"]) rfl (by decide +kernel) (by decide +kernel) tw_cl1 tw_in1 tw_at1 (by decide) (Nat.le_of_ble_eq_true rfl) hSB dX11_coin_13 dX11_coin_16 dX11_coin_17 dX11_coin_20 ⟨rfl, rfl⟩
set_option maxRecDepth 100000 in
set_option maxHeartbeats 800000 in
theorem t_coinO {l : Launch} {G : ks_G} {d : Nat} {S : ks_S} (htr : l.stackTraces = false) (hSB : S.1 < ks_B) {dc dp : Nat} {dt : Int64} {rs : Int32} (h0 : S.2.2 0 = some (jdO dc dp dt rs)) {n best : Nat} {cc : Int32} {tk : Int64} {B : Nat → Bk} (hX : chX S n best cc tk B) {x t ix : Int32} (hn : t < 0 ∨ nI n ≤ x) : kt_P l G yX11_coin mX11_coin (d + 9) [.ref 0, .int x, .int t, .int ix] S (fun z S' => z = some (.int (nI 1)) ∧ S' = ks_one S) := by
  have h0 : S.2.2 0 = some (.inr (14, [.ref 1, .ref 3, .ref 5, .ref 7, .ref 14, .ref 20, .ref 27, .ref 41, .ref 52, .ref 53, .ref 54, .ref 55, .int (nI dc), .int (nI dp), .long dt, .int rs])) := h0
  have hn60 := hX.2.2.2
  refine kt_of htr (by decide) rfl rfl (Nat.le_of_ble_eq_true rfl) ?_
  show ks_Y l G mX11_coin (d + 9) 0 [(0, .ref 0), (1, .int x), (2, .int t), (3, .int ix)] [] S _
  refine kt_iload_n dX11_coin_0 rfl rfl ?_
  refine kt_if_lt (tgt := 13) dX11_coin_1 (by decide) rfl (fun h1 => ?_) (fun h1 => ?_)
  · exact kt_throw (k := 1) (names := ["java/lang/RuntimeException", "java/lang/Exception"]) rfl (by decide +kernel) (by decide +kernel) tw_cl1 tw_in1 tw_at1 (by decide) (Nat.le_of_ble_eq_true rfl) hSB dX11_coin_13 dX11_coin_16 dX11_coin_17 dX11_coin_20 ⟨rfl, rfl⟩
  · refine kt_aload_n dX11_coin_4 rfl rfl ?_
    refine kt_iload_n dX11_coin_5 rfl rfl ?_
    refine kt_iload_n dX11_coin_6 rfl rfl ?_
    refine kt_callV (n := 2) (M' := mX11_hasTransaction) (c_jd_hasN (d := d + 8) h0 hX hn) h0 cl_X11 rfl kx_1277 kx_1279 kxp_21 kx_1 kx_1280 (by decide +kernel) rfl (by decide) (Nat.le_of_ble_eq_true rfl) rfl dX11_coin_7 rfl (fun z1 T1 y1 => ?_)
    obtain ⟨rfl, hT1⟩ := y1
    obtain rfl := hT1.symm
    refine kt_if_neZ (tgt := 21) dX11_coin_10 (by decide) rfl (fun h => absurd h (by decide)) (fun _ => ?_)
    exact kt_throw (k := 1) (names := ["java/lang/RuntimeException", "java/lang/Exception"]) rfl (by decide +kernel) (by decide +kernel) tw_cl1 tw_in1 tw_at1 (by decide) (Nat.le_of_ble_eq_true rfl) hSB dX11_coin_13 dX11_coin_16 dX11_coin_17 dX11_coin_20 ⟨rfl, rfl⟩
set_option maxRecDepth 100000 in
set_option maxHeartbeats 800000 in
theorem t_coinT {l : Launch} {G : ks_G} {d : Nat} {S : ks_S} (htr : l.stackTraces = false) (hSB : S.1 < ks_B) {dc dp : Nat} {dt : Int64} {rs : Int32} (h0 : S.2.2 0 = some (jdO dc dp dt rs)) {n best : Nat} {cc : Int32} {tk : Int64} {B : Nat → Bk} (hX : chX S n best cc tk B) {x t : Nat} {ix : Int32} (hx : x < n) (ht31 : t < 2 ^ 31) (ht : ¬ t < mg (bkM (B x)) 80) : kt_P l G yX11_coin mX11_coin (d + 9) [.ref 0, .int (nI x), .int (nI t), .int ix] S (fun z S' => z = some (.int (nI 1)) ∧ S' = ks_one S) := by
  have h0 : S.2.2 0 = some (.inr (14, [.ref 1, .ref 3, .ref 5, .ref 7, .ref 14, .ref 20, .ref 27, .ref 41, .ref 52, .ref 53, .ref 54, .ref 55, .int (nI dc), .int (nI dp), .long dt, .int rs])) := h0
  have hn60 := hX.2.2.2
  refine kt_of htr (by decide) rfl rfl (Nat.le_of_ble_eq_true rfl) ?_
  show ks_Y l G mX11_coin (d + 9) 0 [(0, .ref 0), (1, .int (nI x)), (2, .int (nI t)), (3, .int ix)] [] S _
  refine kt_iload_n dX11_coin_0 rfl rfl ?_
  refine kt_if_ltN (tgt := 13) (by omega) dX11_coin_1 (by decide) rfl ?_
  refine kt_aload_n dX11_coin_4 rfl rfl ?_
  refine kt_iload_n dX11_coin_5 rfl rfl ?_
  refine kt_iload_n dX11_coin_6 rfl rfl ?_
  refine kt_callV (n := 2) (M' := mX11_hasTransaction) (c_jd_has (d := d + 8) h0 hX hx ht31) h0 cl_X11 rfl kx_1277 kx_1279 kxp_21 kx_1 kx_1280 (by decide +kernel) rfl (by decide) (Nat.le_of_ble_eq_true rfl) rfl dX11_coin_7 rfl (fun z1 T1 y1 => ?_)
  obtain ⟨rfl, hT1⟩ := y1
  obtain rfl := hT1.symm
  rw [decide_eq_false ht]
  refine kt_if_neZ (tgt := 21) dX11_coin_10 (by decide) rfl (fun h => absurd h (by decide)) (fun _ => ?_)
  exact kt_throw (k := 1) (names := ["java/lang/RuntimeException", "java/lang/Exception"]) rfl (by decide +kernel) (by decide +kernel) tw_cl1 tw_in1 tw_at1 (by decide) (Nat.le_of_ble_eq_true rfl) hSB dX11_coin_13 dX11_coin_16 dX11_coin_17 dX11_coin_20 ⟨rfl, rfl⟩
set_option maxRecDepth 100000 in
set_option maxHeartbeats 800000 in
theorem t_inputQ {l : Launch} {G : ks_G} {d : Nat} {S : ks_S} (htr : l.stackTraces = false) (hSB : S.1 < ks_B) {dc dp : Nat} {dt : Int64} {rs : Int32} (h0 : S.2.2 0 = some (jdO dc dp dt rs)) {q : Int64} {ix : Int32} {x t : Int32} (hq : unL q = true) : kt_P l G yX11_input mX11_input (d + 9) [.ref 0, .int x, .int t, .int ix, .long q] S (fun z S' => z = some (.int (nI 1)) ∧ S' = ks_one S) := by
  have h0 : S.2.2 0 = some (.inr (14, [.ref 1, .ref 3, .ref 5, .ref 7, .ref 14, .ref 20, .ref 27, .ref 41, .ref 52, .ref 53, .ref 54, .ref 55, .int (nI dc), .int (nI dp), .long dt, .int rs])) := h0
  refine kt_of htr (by decide) rfl rfl (Nat.le_of_ble_eq_true rfl) ?_
  show ks_Y l G mX11_input (d + 9) 0 [(0, .ref 0), (1, .int x), (2, .int t), (3, .int ix), (4, .long q)] [] S _
  refine kt_lload dX11_input_0 rfl rfl ?_
  refine kt_callS (n := 1) (M' := mX11_isNotUnsigned) (c_jd_unsigned (d := d + 8) (v := q)) kx_1259 kx_1260 kx_1 kx_1261 (by decide +kernel) rfl (by decide) (Nat.le_of_ble_eq_true rfl) rfl dX11_input_2 rfl (fun z0 T0 y0 => ?_)
  obtain ⟨rfl, hT0⟩ := y0
  obtain rfl := hT0.symm
  rw [hq]
  refine kt_if_neZ (tgt := 28) dX11_input_5 (by decide) rfl (fun _ => ?_) (fun h => absurd h (by decide))
  exact kt_throw (k := 1) (names := ["java/lang/RuntimeException", "java/lang/Exception"]) rfl (by decide +kernel) (by decide +kernel) tw_cl1 tw_in1 tw_at1 (by decide) (Nat.le_of_ble_eq_true rfl) hSB dX11_input_28 dX11_input_31 dX11_input_32 dX11_input_35 ⟨rfl, rfl⟩
set_option maxRecDepth 100000 in
set_option maxHeartbeats 800000 in
theorem t_inputL {l : Launch} {G : ks_G} {d : Nat} {S : ks_S} (htr : l.stackTraces = false) (hSB : S.1 < ks_B) {dc dp : Nat} {dt : Int64} {rs : Int32} (h0 : S.2.2 0 = some (jdO dc dp dt rs)) {q : Int64} {ix : Int32} {x t : Int32} (hq : unL q = false) (hx : x < -2) : kt_P l G yX11_input mX11_input (d + 9) [.ref 0, .int x, .int t, .int ix, .long q] S (fun z S' => z = some (.int (nI 1)) ∧ S' = ks_one S) := by
  have h0 : S.2.2 0 = some (.inr (14, [.ref 1, .ref 3, .ref 5, .ref 7, .ref 14, .ref 20, .ref 27, .ref 41, .ref 52, .ref 53, .ref 54, .ref 55, .int (nI dc), .int (nI dp), .long dt, .int rs])) := h0
  refine kt_of htr (by decide) rfl rfl (Nat.le_of_ble_eq_true rfl) ?_
  show ks_Y l G mX11_input (d + 9) 0 [(0, .ref 0), (1, .int x), (2, .int t), (3, .int ix), (4, .long q)] [] S _
  refine kt_lload dX11_input_0 rfl rfl ?_
  refine kt_callS (n := 1) (M' := mX11_isNotUnsigned) (c_jd_unsigned (d := d + 8) (v := q)) kx_1259 kx_1260 kx_1 kx_1261 (by decide +kernel) rfl (by decide) (Nat.le_of_ble_eq_true rfl) rfl dX11_input_2 rfl (fun z0 T0 y0 => ?_)
  obtain ⟨rfl, hT0⟩ := y0
  obtain rfl := hT0.symm
  rw [hq]
  refine kt_if_neZ (tgt := 28) dX11_input_5 (by decide) rfl (fun h => absurd h (by decide)) (fun _ => ?_)
  refine kt_iload_n dX11_input_8 rfl rfl ?_
  refine kt_bipush (x := (-2)) dX11_input_9 (by decide) rfl ?_
  refine kt_icmp_lt (tgt := 28) dX11_input_11 (by decide) rfl (fun _ => ?_) (fun h => absurd hx h)
  exact kt_throw (k := 1) (names := ["java/lang/RuntimeException", "java/lang/Exception"]) rfl (by decide +kernel) (by decide +kernel) tw_cl1 tw_in1 tw_at1 (by decide) (Nat.le_of_ble_eq_true rfl) hSB dX11_input_28 dX11_input_31 dX11_input_32 dX11_input_35 ⟨rfl, rfl⟩
set_option maxRecDepth 100000 in
set_option maxHeartbeats 800000 in
theorem t_inputN {l : Launch} {G : ks_G} {d : Nat} {S : ks_S} (htr : l.stackTraces = false) (hSB : S.1 < ks_B) {dc dp : Nat} {dt : Int64} {rs : Int32} (h0 : S.2.2 0 = some (jdO dc dp dt rs)) {q : Int64} {ix : Int32} {n best : Nat} {cc : Int32} {tk : Int64} {B : Nat → Bk} (hX : chX S n best cc tk B) {x t : Int32} (hx1 : ¬ x < -2) (hx2 : ¬ x = -1) (hn : t < 0 ∨ nI n ≤ x) (hq : unL q = false) : kt_P l G yX11_input mX11_input (d + 9) [.ref 0, .int x, .int t, .int ix, .long q] S (fun z S' => z = some (.int (nI 1)) ∧ S' = ks_one S) := by
  have h0 : S.2.2 0 = some (.inr (14, [.ref 1, .ref 3, .ref 5, .ref 7, .ref 14, .ref 20, .ref 27, .ref 41, .ref 52, .ref 53, .ref 54, .ref 55, .int (nI dc), .int (nI dp), .long dt, .int rs])) := h0
  refine kt_of htr (by decide) rfl rfl (Nat.le_of_ble_eq_true rfl) ?_
  show ks_Y l G mX11_input (d + 9) 0 [(0, .ref 0), (1, .int x), (2, .int t), (3, .int ix), (4, .long q)] [] S _
  refine kt_lload dX11_input_0 rfl rfl ?_
  refine kt_callS (n := 1) (M' := mX11_isNotUnsigned) (c_jd_unsigned (d := d + 8) (v := q)) kx_1259 kx_1260 kx_1 kx_1261 (by decide +kernel) rfl (by decide) (Nat.le_of_ble_eq_true rfl) rfl dX11_input_2 rfl (fun z0 T0 y0 => ?_)
  obtain ⟨rfl, hT0⟩ := y0
  obtain rfl := hT0.symm
  rw [hq]
  refine kt_if_neZ (tgt := 28) dX11_input_5 (by decide) rfl (fun h => absurd h (by decide)) (fun _ => ?_)
  refine kt_iload_n dX11_input_8 rfl rfl ?_
  refine kt_bipush (x := (-2)) dX11_input_9 (by decide) rfl ?_
  refine kt_icmp_lt (tgt := 28) dX11_input_11 (by decide) rfl (fun h => absurd h hx1) (fun _ => ?_)
  refine kt_iload_n dX11_input_14 rfl rfl ?_
  refine kt_iconst (x := (-1)) dX11_input_15 (by decide) rfl ?_
  refine kt_icmp_eq (tgt := 36) dX11_input_16 (by decide) rfl (fun h => absurd h hx2) (fun _ => ?_)
  refine kt_aload_n dX11_input_19 rfl rfl ?_
  refine kt_iload_n dX11_input_20 rfl rfl ?_
  refine kt_iload_n dX11_input_21 rfl rfl ?_
  refine kt_callV (n := 2) (M' := mX11_hasTransaction) (c_jd_hasN (d := d + 8) h0 hX hn) h0 cl_X11 rfl kx_1277 kx_1279 kxp_21 kx_1 kx_1280 (by decide +kernel) rfl (by decide) (Nat.le_of_ble_eq_true rfl) rfl dX11_input_22 rfl (fun z1 T1 y1 => ?_)
  obtain ⟨rfl, hT1⟩ := y1
  obtain rfl := hT1.symm
  refine kt_if_neZ (tgt := 36) dX11_input_25 (by decide) rfl (fun h => absurd h (by decide)) (fun _ => ?_)
  exact kt_throw (k := 1) (names := ["java/lang/RuntimeException", "java/lang/Exception"]) rfl (by decide +kernel) (by decide +kernel) tw_cl1 tw_in1 tw_at1 (by decide) (Nat.le_of_ble_eq_true rfl) hSB dX11_input_28 dX11_input_31 dX11_input_32 dX11_input_35 ⟨rfl, rfl⟩
set_option maxRecDepth 100000 in
set_option maxHeartbeats 800000 in
theorem t_inputT {l : Launch} {G : ks_G} {d : Nat} {S : ks_S} (htr : l.stackTraces = false) (hSB : S.1 < ks_B) {dc dp : Nat} {dt : Int64} {rs : Int32} (h0 : S.2.2 0 = some (jdO dc dp dt rs)) {q : Int64} {ix : Int32} {n best : Nat} {cc : Int32} {tk : Int64} {B : Nat → Bk} (hX : chX S n best cc tk B) {x t : Nat} (hx : x < n) (ht31 : t < 2 ^ 31) (ht : ¬ t < mg (bkM (B x)) 80) (hn60 : n ≤ 60) (hq : unL q = false) : kt_P l G yX11_input mX11_input (d + 9) [.ref 0, .int (nI x), .int (nI t), .int ix, .long q] S (fun z S' => z = some (.int (nI 1)) ∧ S' = ks_one S) := by
  have h0 : S.2.2 0 = some (.inr (14, [.ref 1, .ref 3, .ref 5, .ref 7, .ref 14, .ref 20, .ref 27, .ref 41, .ref 52, .ref 53, .ref 54, .ref 55, .int (nI dc), .int (nI dp), .long dt, .int rs])) := h0
  refine kt_of htr (by decide) rfl rfl (Nat.le_of_ble_eq_true rfl) ?_
  show ks_Y l G mX11_input (d + 9) 0 [(0, .ref 0), (1, .int (nI x)), (2, .int (nI t)), (3, .int ix), (4, .long q)] [] S _
  refine kt_lload dX11_input_0 rfl rfl ?_
  refine kt_callS (n := 1) (M' := mX11_isNotUnsigned) (c_jd_unsigned (d := d + 8) (v := q)) kx_1259 kx_1260 kx_1 kx_1261 (by decide +kernel) rfl (by decide) (Nat.le_of_ble_eq_true rfl) rfl dX11_input_2 rfl (fun z0 T0 y0 => ?_)
  obtain ⟨rfl, hT0⟩ := y0
  obtain rfl := hT0.symm
  rw [hq]
  refine kt_if_neZ (tgt := 28) dX11_input_5 (by decide) rfl (fun h => absurd h (by decide)) (fun _ => ?_)
  refine kt_iload_n dX11_input_8 rfl rfl ?_
  refine kt_bipush (x := (-2)) dX11_input_9 (by decide) rfl ?_
  refine kt_icmp_lt (tgt := 28) dX11_input_11 (by decide) rfl (fun h => absurd h (Int32.not_lt.mpr (Int32.le_trans (by decide : (-2 : Int32) ≤ 0) (nI_nn (by omega : x < 2 ^ 31))))) (fun _ => ?_)
  refine kt_iload_n dX11_input_14 rfl rfl ?_
  refine kt_iconst (x := (-1)) dX11_input_15 (by decide) rfl ?_
  refine kt_icmp_eq (tgt := 36) dX11_input_16 (by decide) rfl (fun h => absurd (h ▸ nI_nn (by omega : x < 2 ^ 31)) (by decide)) (fun _ => ?_)
  refine kt_aload_n dX11_input_19 rfl rfl ?_
  refine kt_iload_n dX11_input_20 rfl rfl ?_
  refine kt_iload_n dX11_input_21 rfl rfl ?_
  refine kt_callV (n := 2) (M' := mX11_hasTransaction) (c_jd_has (d := d + 8) h0 hX hx ht31) h0 cl_X11 rfl kx_1277 kx_1279 kxp_21 kx_1 kx_1280 (by decide +kernel) rfl (by decide) (Nat.le_of_ble_eq_true rfl) rfl dX11_input_22 rfl (fun z1 T1 y1 => ?_)
  obtain ⟨rfl, hT1⟩ := y1
  obtain rfl := hT1.symm
  rw [decide_eq_false ht]
  refine kt_if_neZ (tgt := 36) dX11_input_25 (by decide) rfl (fun h => absurd h (by decide)) (fun _ => ?_)
  exact kt_throw (k := 1) (names := ["java/lang/RuntimeException", "java/lang/Exception"]) rfl (by decide +kernel) (by decide +kernel) tw_cl1 tw_in1 tw_at1 (by decide) (Nat.le_of_ble_eq_true rfl) hSB dX11_input_28 dX11_input_31 dX11_input_32 dX11_input_35 ⟨rfl, rfl⟩
set_option maxRecDepth 100000 in
set_option maxHeartbeats 800000 in
theorem t_inputD {l : Launch} {G : ks_G} {d : Nat} {S : ks_S} (htr : l.stackTraces = false) (hSB : S.1 < ks_B) {dc dp : Nat} {dt : Int64} {rs : Int32} (h0 : S.2.2 0 = some (jdO dc dp dt rs)) {q : Int64} {ix : Int32} {n best : Nat} {cc : Int32} {tk : Int64} {B : Nat → Bk} (hX : chX S n best cc tk B) {t : Nat} (ht31 : t < 2 ^ 31) (hdc : dc ≤ 12) (ht : ¬ t < dc) (hq : unL q = false) : kt_P l G yX11_input mX11_input (d + 9) [.ref 0, .int (-2), .int (nI t), .int ix, .long q] S (fun z S' => z = some (.int (nI 1)) ∧ S' = ks_one S) := by
  have h0 : S.2.2 0 = some (.inr (14, [.ref 1, .ref 3, .ref 5, .ref 7, .ref 14, .ref 20, .ref 27, .ref 41, .ref 52, .ref 53, .ref 54, .ref 55, .int (nI dc), .int (nI dp), .long dt, .int rs])) := h0
  refine kt_of htr (by decide) rfl rfl (Nat.le_of_ble_eq_true rfl) ?_
  show ks_Y l G mX11_input (d + 9) 0 [(0, .ref 0), (1, .int (-2)), (2, .int (nI t)), (3, .int ix), (4, .long q)] [] S _
  refine kt_lload dX11_input_0 rfl rfl ?_
  refine kt_callS (n := 1) (M' := mX11_isNotUnsigned) (c_jd_unsigned (d := d + 8) (v := q)) kx_1259 kx_1260 kx_1 kx_1261 (by decide +kernel) rfl (by decide) (Nat.le_of_ble_eq_true rfl) rfl dX11_input_2 rfl (fun z0 T0 y0 => ?_)
  obtain ⟨rfl, hT0⟩ := y0
  obtain rfl := hT0.symm
  rw [hq]
  refine kt_if_neZ (tgt := 28) dX11_input_5 (by decide) rfl (fun h => absurd h (by decide)) (fun _ => ?_)
  refine kt_iload_n dX11_input_8 rfl rfl ?_
  refine kt_bipush (x := (-2)) dX11_input_9 (by decide) rfl ?_
  refine kt_icmp_lt (tgt := 28) dX11_input_11 (by decide) rfl (fun h => absurd h (by decide)) (fun _ => ?_)
  refine kt_iload_n dX11_input_14 rfl rfl ?_
  refine kt_iconst (x := (-1)) dX11_input_15 (by decide) rfl ?_
  refine kt_icmp_eq (tgt := 36) dX11_input_16 (by decide) rfl (fun h => absurd h (by decide)) (fun _ => ?_)
  refine kt_aload_n dX11_input_19 rfl rfl ?_
  refine kt_iload_n dX11_input_20 rfl rfl ?_
  refine kt_iload_n dX11_input_21 rfl rfl ?_
  refine kt_callV (n := 2) (M' := mX11_hasTransaction) (c_jd_hasD (d := d + 8) h0 hX ht31 hdc) h0 cl_X11 rfl kx_1277 kx_1279 kxp_21 kx_1 kx_1280 (by decide +kernel) rfl (by decide) (Nat.le_of_ble_eq_true rfl) rfl dX11_input_22 rfl (fun z1 T1 y1 => ?_)
  obtain ⟨rfl, hT1⟩ := y1
  obtain rfl := hT1.symm
  rw [decide_eq_false ht]
  refine kt_if_neZ (tgt := 36) dX11_input_25 (by decide) rfl (fun h => absurd h (by decide)) (fun _ => ?_)
  exact kt_throw (k := 1) (names := ["java/lang/RuntimeException", "java/lang/Exception"]) rfl (by decide +kernel) (by decide +kernel) tw_cl1 tw_in1 tw_at1 (by decide) (Nat.le_of_ble_eq_true rfl) hSB dX11_input_28 dX11_input_31 dX11_input_32 dX11_input_35 ⟨rfl, rfl⟩
set_option maxRecDepth 100000 in
set_option maxHeartbeats 800000 in
theorem t_inputSZ {l : Launch} {G : ks_G} {d : Nat} {S : ks_S} (htr : l.stackTraces = false) (hSB : S.1 < ks_B) {dc dp : Nat} {dt : Int64} {rs : Int32} (h0 : S.2.2 0 = some (jdO dc dp dt rs)) {q : Int64} {ix : Int32} {t : Int32} (hq : unL q = false) (hdc : dc = 0) : kt_P l G yX11_input mX11_input (d + 9) [.ref 0, .int (-1), .int t, .int ix, .long q] S (fun z S' => z = some (.int (nI 2)) ∧ S' = ks_one S) := by
  have h0 : S.2.2 0 = some (.inr (14, [.ref 1, .ref 3, .ref 5, .ref 7, .ref 14, .ref 20, .ref 27, .ref 41, .ref 52, .ref 53, .ref 54, .ref 55, .int (nI dc), .int (nI dp), .long dt, .int rs])) := h0
  refine kt_of htr (by decide) rfl rfl (Nat.le_of_ble_eq_true rfl) ?_
  show ks_Y l G mX11_input (d + 9) 0 [(0, .ref 0), (1, .int (-1)), (2, .int t), (3, .int ix), (4, .long q)] [] S _
  refine kt_lload dX11_input_0 rfl rfl ?_
  refine kt_callS (n := 1) (M' := mX11_isNotUnsigned) (c_jd_unsigned (d := d + 8) (v := q)) kx_1259 kx_1260 kx_1 kx_1261 (by decide +kernel) rfl (by decide) (Nat.le_of_ble_eq_true rfl) rfl dX11_input_2 rfl (fun z0 T0 y0 => ?_)
  obtain ⟨rfl, hT0⟩ := y0
  obtain rfl := hT0.symm
  rw [hq]
  refine kt_if_neZ (tgt := 28) dX11_input_5 (by decide) rfl (fun h => absurd h (by decide)) (fun _ => ?_)
  refine kt_iload_n dX11_input_8 rfl rfl ?_
  refine kt_bipush (x := (-2)) dX11_input_9 (by decide) rfl ?_
  refine kt_icmp_lt (tgt := 28) dX11_input_11 (by decide) rfl (fun h => absurd h (by decide)) (fun _ => ?_)
  refine kt_iload_n dX11_input_14 rfl rfl ?_
  refine kt_iconst (x := (-1)) dX11_input_15 (by decide) rfl ?_
  refine kt_icmp_eq (tgt := 36) dX11_input_16 (by decide) rfl (fun _ => ?_) (fun h => absurd rfl h)
  refine kt_aload_n dX11_input_36 rfl rfl ?_
  refine kt_getf (T := TX11) (kf := 12) kx_1065 rfl in_X11 cl_X11 (by decide) h0 rfl dX11_input_37 rfl ?_
  refine kt_if_neN (tgt := 51) (by omega) dX11_input_40 (by decide) rfl (fun h4 => absurd h4 (by omega)) (fun h4 => ?_)
  exact kt_throw (k := 2) (names := ["java/lang/RuntimeException", "java/lang/Exception"]) rfl (by decide +kernel) (by decide +kernel) tw_cl2 tw_in2 tw_at2 (by decide) (Nat.le_of_ble_eq_true rfl) hSB dX11_input_43 dX11_input_46 dX11_input_47 dX11_input_50 ⟨rfl, rfl⟩
set_option maxRecDepth 100000 in
set_option maxHeartbeats 800000 in
theorem t_inputSB {l : Launch} {G : ks_G} {d : Nat} {S : ks_S} (htr : l.stackTraces = false) (hSB : S.1 < ks_B) {dc dp : Nat} {dt : Int64} {rs : Int32} (h0 : S.2.2 0 = some (jdO dc dp dt rs)) {q : Int64} {ix : Int32} {n best : Nat} {cc : Int32} {tk : Int64} {B : Nat → Bk} (hX : chX S n best cc tk B) {x t : Nat} (hx : x < n) (ht31 : t < 2 ^ 31) (ht : t < mg (bkM (B x)) 80) (hn60 : n ≤ 60) (hq : unL q = false) (hdc : dc = 0) : kt_P l G yX11_input mX11_input (d + 9) [.ref 0, .int (nI x), .int (nI t), .int ix, .long q] S (fun z S' => z = some (.int (nI 2)) ∧ S' = ks_one S) := by
  have h0 : S.2.2 0 = some (.inr (14, [.ref 1, .ref 3, .ref 5, .ref 7, .ref 14, .ref 20, .ref 27, .ref 41, .ref 52, .ref 53, .ref 54, .ref 55, .int (nI dc), .int (nI dp), .long dt, .int rs])) := h0
  refine kt_of htr (by decide) rfl rfl (Nat.le_of_ble_eq_true rfl) ?_
  show ks_Y l G mX11_input (d + 9) 0 [(0, .ref 0), (1, .int (nI x)), (2, .int (nI t)), (3, .int ix), (4, .long q)] [] S _
  refine kt_lload dX11_input_0 rfl rfl ?_
  refine kt_callS (n := 1) (M' := mX11_isNotUnsigned) (c_jd_unsigned (d := d + 8) (v := q)) kx_1259 kx_1260 kx_1 kx_1261 (by decide +kernel) rfl (by decide) (Nat.le_of_ble_eq_true rfl) rfl dX11_input_2 rfl (fun z0 T0 y0 => ?_)
  obtain ⟨rfl, hT0⟩ := y0
  obtain rfl := hT0.symm
  rw [hq]
  refine kt_if_neZ (tgt := 28) dX11_input_5 (by decide) rfl (fun h => absurd h (by decide)) (fun _ => ?_)
  refine kt_iload_n dX11_input_8 rfl rfl ?_
  refine kt_bipush (x := (-2)) dX11_input_9 (by decide) rfl ?_
  refine kt_icmp_lt (tgt := 28) dX11_input_11 (by decide) rfl (fun h => absurd h (Int32.not_lt.mpr (Int32.le_trans (by decide : (-2 : Int32) ≤ 0) (nI_nn (by omega : x < 2 ^ 31))))) (fun _ => ?_)
  refine kt_iload_n dX11_input_14 rfl rfl ?_
  refine kt_iconst (x := (-1)) dX11_input_15 (by decide) rfl ?_
  refine kt_icmp_eq (tgt := 36) dX11_input_16 (by decide) rfl (fun h => absurd (h ▸ nI_nn (by omega : x < 2 ^ 31)) (by decide)) (fun _ => ?_)
  refine kt_aload_n dX11_input_19 rfl rfl ?_
  refine kt_iload_n dX11_input_20 rfl rfl ?_
  refine kt_iload_n dX11_input_21 rfl rfl ?_
  refine kt_callV (n := 2) (M' := mX11_hasTransaction) (c_jd_has (d := d + 8) h0 hX hx ht31) h0 cl_X11 rfl kx_1277 kx_1279 kxp_21 kx_1 kx_1280 (by decide +kernel) rfl (by decide) (Nat.le_of_ble_eq_true rfl) rfl dX11_input_22 rfl (fun z1 T1 y1 => ?_)
  obtain ⟨rfl, hT1⟩ := y1
  obtain rfl := hT1.symm
  rw [decide_eq_true ht]
  refine kt_if_neZ (tgt := 36) dX11_input_25 (by decide) rfl (fun _ => ?_) (fun h => absurd h (by decide))
  refine kt_aload_n dX11_input_36 rfl rfl ?_
  refine kt_getf (T := TX11) (kf := 12) kx_1065 rfl in_X11 cl_X11 (by decide) h0 rfl dX11_input_37 rfl ?_
  refine kt_if_neN (tgt := 51) (by omega) dX11_input_40 (by decide) rfl (fun h4 => absurd h4 (by omega)) (fun h4 => ?_)
  exact kt_throw (k := 2) (names := ["java/lang/RuntimeException", "java/lang/Exception"]) rfl (by decide +kernel) (by decide +kernel) tw_cl2 tw_in2 tw_at2 (by decide) (Nat.le_of_ble_eq_true rfl) hSB dX11_input_43 dX11_input_46 dX11_input_47 dX11_input_50 ⟨rfl, rfl⟩
set_option maxRecDepth 100000 in
set_option maxHeartbeats 800000 in
theorem t_inputFZ {l : Launch} {G : ks_G} {d : Nat} {S : ks_S} (htr : l.stackTraces = false) (hSB : S.1 < ks_B) {dc dp : Nat} {dt : Int64} {rs : Int32} (h0 : S.2.2 0 = some (jdO dc dp dt rs)) {T : List Nat} (hT : bfS S 1 2 1600 (some T)) {Ds : Nat → dTx} (hD : dfS S Ds) {q : Int64} {ix : Int32} {t : Int32} (hq : unL q = false) (hdc : 0 < dc ∧ dc ≤ 12) (hf : ¬ ((Ds (dc - 1)).2.2.1.length ≠ 6 ∧ T.length ≤ 600)) : kt_P l G yX11_input mX11_input (d + 9) [.ref 0, .int (-1), .int t, .int ix, .long q] S (fun z S' => z = some (.int (nI 0)) ∧ S' = ks_one S) := by
  have h0 : S.2.2 0 = some (.inr (14, [.ref 1, .ref 3, .ref 5, .ref 7, .ref 14, .ref 20, .ref 27, .ref 41, .ref 52, .ref 53, .ref 54, .ref 55, .int (nI dc), .int (nI dp), .long dt, .int rs])) := h0
  obtain ⟨len, g, kg, hl16, e2, e1, ⟨hl, hg⟩⟩ := id hT
  have h52 := hD.1
  have hxd := hD.2 (dc - 1) (by omega)
  obtain ⟨xsz, xid, xix, xsq, xvl, xsc, xU, xI, xO⟩ := dx_len hxd
  have xB := xU.2.2.2.2.2.2.2.2.2.2.2.2.2.2
  have xk := xU.2.2.2.2.2.2.2.2.2.2.1
  have xm := xU.2.2.2.2.2.2.2.2.2.2.2.1
  have x0 := xU.1
  have x1 := xU.2.1
  refine kt_of htr (by decide) rfl rfl (Nat.le_of_ble_eq_true rfl) ?_
  show ks_Y l G mX11_input (d + 9) 0 [(0, .ref 0), (1, .int (-1)), (2, .int t), (3, .int ix), (4, .long q)] [] S _
  refine kt_lload dX11_input_0 rfl rfl ?_
  refine kt_callS (n := 1) (M' := mX11_isNotUnsigned) (c_jd_unsigned (d := d + 8) (v := q)) kx_1259 kx_1260 kx_1 kx_1261 (by decide +kernel) rfl (by decide) (Nat.le_of_ble_eq_true rfl) rfl dX11_input_2 rfl (fun z0 T0 y0 => ?_)
  obtain ⟨rfl, hT0⟩ := y0
  obtain rfl := hT0.symm
  rw [hq]
  refine kt_if_neZ (tgt := 28) dX11_input_5 (by decide) rfl (fun h => absurd h (by decide)) (fun _ => ?_)
  refine kt_iload_n dX11_input_8 rfl rfl ?_
  refine kt_bipush (x := (-2)) dX11_input_9 (by decide) rfl ?_
  refine kt_icmp_lt (tgt := 28) dX11_input_11 (by decide) rfl (fun h => absurd h (by decide)) (fun _ => ?_)
  refine kt_iload_n dX11_input_14 rfl rfl ?_
  refine kt_iconst (x := (-1)) dX11_input_15 (by decide) rfl ?_
  refine kt_icmp_eq (tgt := 36) dX11_input_16 (by decide) rfl (fun _ => ?_) (fun h => absurd rfl h)
  refine kt_aload_n dX11_input_36 rfl rfl ?_
  refine kt_getf (T := TX11) (kf := 12) kx_1065 rfl in_X11 cl_X11 (by decide) h0 rfl dX11_input_37 rfl ?_
  refine kt_if_neN (tgt := 51) (by omega) dX11_input_40 (by decide) rfl (fun h4 => ?_) (fun h4 => absurd h4 (by omega))
  refine kt_aload_n dX11_input_51 rfl rfl ?_
  refine kt_getf (T := TX11) (kf := 8) kx_1061 rfl in_X11 cl_X11 (by decide) h0 rfl dX11_input_52 rfl ?_
  refine kt_aload_n dX11_input_55 rfl rfl ?_
  refine kt_getf (T := TX11) (kf := 12) kx_1065 rfl in_X11 cl_X11 (by decide) h0 rfl dX11_input_56 rfl ?_
  refine kt_iconst (x := nI 1) dX11_input_59 (by decide) rfl ?_
  refine kt_subN (by omega) dX11_input_60 rfl ?_
  refine kt_aaldN (i := dc - 1) (b := (56 + 19 * (dc - 1))) (by decide) h52 rfl (by omega) (by decide) (if_pos (by omega)) dX11_input_61 rfl ?_
  refine kt_astore dX11_input_62 (by decide) rfl ?_
  refine kt_sub [(6, _), (0, _), (1, _), (2, _), (3, _), (4, _)] rfl ?_
  refine kt_aload dX11_input_64 rfl rfl ?_
  refine kt_getf (T := TX4) (kf := 0) kx_787 rfl in_X4 cl_X4 (by decide) x0 rfl dX11_input_66 rfl ?_
  refine kt_bipush (x := nI 6) dX11_input_69 (by decide) rfl ?_
  refine kt_icmp_eqN (tgt := 87) (by omega) (by decide) dX11_input_71 (by decide) rfl (fun h5 => ?_) (fun h5 => ?_)
  · exact kt_throw (k := 0) (names := ["java/lang/RuntimeException", "java/lang/Exception"]) rfl (by decide +kernel) (by decide +kernel) tw_cl0 tw_in0 tw_at0 (by decide) (Nat.le_of_ble_eq_true rfl) hSB dX11_input_87 dX11_input_90 dX11_input_91 dX11_input_94 ⟨rfl, rfl⟩
  · refine kt_aload_n dX11_input_74 rfl rfl ?_
    refine kt_getf (T := TX11) (kf := 0) kx_1053 rfl in_X11 cl_X11 (by decide) h0 rfl dX11_input_75 rfl ?_
    refine kt_getf (T := TX1) (kf := 1) kx_59 rfl in_X1 cl_X1 (by decide) e1 rfl dX11_input_78 rfl ?_
    refine kt_sipush (x := nI 600) dX11_input_81 (by decide) rfl ?_
    refine kt_icmp_leN (tgt := 95) (by omega) (by decide) dX11_input_84 (by decide) rfl (fun h6 => absurd h6 (by omega)) (fun h6 => ?_)
    exact kt_throw (k := 0) (names := ["java/lang/RuntimeException", "java/lang/Exception"]) rfl (by decide +kernel) (by decide +kernel) tw_cl0 tw_in0 tw_at0 (by decide) (Nat.le_of_ble_eq_true rfl) hSB dX11_input_87 dX11_input_90 dX11_input_91 dX11_input_94 ⟨rfl, rfl⟩
set_option maxRecDepth 100000 in
set_option maxHeartbeats 800000 in
theorem t_inputFB {l : Launch} {G : ks_G} {d : Nat} {S : ks_S} (htr : l.stackTraces = false) (hSB : S.1 < ks_B) {dc dp : Nat} {dt : Int64} {rs : Int32} (h0 : S.2.2 0 = some (jdO dc dp dt rs)) {T : List Nat} (hT : bfS S 1 2 1600 (some T)) {Ds : Nat → dTx} (hD : dfS S Ds) {q : Int64} {ix : Int32} {n best : Nat} {cc : Int32} {tk : Int64} {B : Nat → Bk} (hX : chX S n best cc tk B) {x t : Nat} (hx : x < n) (ht31 : t < 2 ^ 31) (ht : t < mg (bkM (B x)) 80) (hn60 : n ≤ 60) (hq : unL q = false) (hdc : 0 < dc ∧ dc ≤ 12) (hf : ¬ ((Ds (dc - 1)).2.2.1.length ≠ 6 ∧ T.length ≤ 600)) : kt_P l G yX11_input mX11_input (d + 9) [.ref 0, .int (nI x), .int (nI t), .int ix, .long q] S (fun z S' => z = some (.int (nI 0)) ∧ S' = ks_one S) := by
  have h0 : S.2.2 0 = some (.inr (14, [.ref 1, .ref 3, .ref 5, .ref 7, .ref 14, .ref 20, .ref 27, .ref 41, .ref 52, .ref 53, .ref 54, .ref 55, .int (nI dc), .int (nI dp), .long dt, .int rs])) := h0
  obtain ⟨len, g, kg, hl16, e2, e1, ⟨hl, hg⟩⟩ := id hT
  have h52 := hD.1
  have hxd := hD.2 (dc - 1) (by omega)
  obtain ⟨xsz, xid, xix, xsq, xvl, xsc, xU, xI, xO⟩ := dx_len hxd
  have xB := xU.2.2.2.2.2.2.2.2.2.2.2.2.2.2
  have xk := xU.2.2.2.2.2.2.2.2.2.2.1
  have xm := xU.2.2.2.2.2.2.2.2.2.2.2.1
  have x0 := xU.1
  have x1 := xU.2.1
  refine kt_of htr (by decide) rfl rfl (Nat.le_of_ble_eq_true rfl) ?_
  show ks_Y l G mX11_input (d + 9) 0 [(0, .ref 0), (1, .int (nI x)), (2, .int (nI t)), (3, .int ix), (4, .long q)] [] S _
  refine kt_lload dX11_input_0 rfl rfl ?_
  refine kt_callS (n := 1) (M' := mX11_isNotUnsigned) (c_jd_unsigned (d := d + 8) (v := q)) kx_1259 kx_1260 kx_1 kx_1261 (by decide +kernel) rfl (by decide) (Nat.le_of_ble_eq_true rfl) rfl dX11_input_2 rfl (fun z0 T0 y0 => ?_)
  obtain ⟨rfl, hT0⟩ := y0
  obtain rfl := hT0.symm
  rw [hq]
  refine kt_if_neZ (tgt := 28) dX11_input_5 (by decide) rfl (fun h => absurd h (by decide)) (fun _ => ?_)
  refine kt_iload_n dX11_input_8 rfl rfl ?_
  refine kt_bipush (x := (-2)) dX11_input_9 (by decide) rfl ?_
  refine kt_icmp_lt (tgt := 28) dX11_input_11 (by decide) rfl (fun h => absurd h (Int32.not_lt.mpr (Int32.le_trans (by decide : (-2 : Int32) ≤ 0) (nI_nn (by omega : x < 2 ^ 31))))) (fun _ => ?_)
  refine kt_iload_n dX11_input_14 rfl rfl ?_
  refine kt_iconst (x := (-1)) dX11_input_15 (by decide) rfl ?_
  refine kt_icmp_eq (tgt := 36) dX11_input_16 (by decide) rfl (fun h => absurd (h ▸ nI_nn (by omega : x < 2 ^ 31)) (by decide)) (fun _ => ?_)
  refine kt_aload_n dX11_input_19 rfl rfl ?_
  refine kt_iload_n dX11_input_20 rfl rfl ?_
  refine kt_iload_n dX11_input_21 rfl rfl ?_
  refine kt_callV (n := 2) (M' := mX11_hasTransaction) (c_jd_has (d := d + 8) h0 hX hx ht31) h0 cl_X11 rfl kx_1277 kx_1279 kxp_21 kx_1 kx_1280 (by decide +kernel) rfl (by decide) (Nat.le_of_ble_eq_true rfl) rfl dX11_input_22 rfl (fun z1 T1 y1 => ?_)
  obtain ⟨rfl, hT1⟩ := y1
  obtain rfl := hT1.symm
  rw [decide_eq_true ht]
  refine kt_if_neZ (tgt := 36) dX11_input_25 (by decide) rfl (fun _ => ?_) (fun h => absurd h (by decide))
  refine kt_aload_n dX11_input_36 rfl rfl ?_
  refine kt_getf (T := TX11) (kf := 12) kx_1065 rfl in_X11 cl_X11 (by decide) h0 rfl dX11_input_37 rfl ?_
  refine kt_if_neN (tgt := 51) (by omega) dX11_input_40 (by decide) rfl (fun h4 => ?_) (fun h4 => absurd h4 (by omega))
  refine kt_aload_n dX11_input_51 rfl rfl ?_
  refine kt_getf (T := TX11) (kf := 8) kx_1061 rfl in_X11 cl_X11 (by decide) h0 rfl dX11_input_52 rfl ?_
  refine kt_aload_n dX11_input_55 rfl rfl ?_
  refine kt_getf (T := TX11) (kf := 12) kx_1065 rfl in_X11 cl_X11 (by decide) h0 rfl dX11_input_56 rfl ?_
  refine kt_iconst (x := nI 1) dX11_input_59 (by decide) rfl ?_
  refine kt_subN (by omega) dX11_input_60 rfl ?_
  refine kt_aaldN (i := dc - 1) (b := (56 + 19 * (dc - 1))) (by decide) h52 rfl (by omega) (by decide) (if_pos (by omega)) dX11_input_61 rfl ?_
  refine kt_astore dX11_input_62 (by decide) rfl ?_
  refine kt_sub [(6, _), (0, _), (1, _), (2, _), (3, _), (4, _)] rfl ?_
  refine kt_aload dX11_input_64 rfl rfl ?_
  refine kt_getf (T := TX4) (kf := 0) kx_787 rfl in_X4 cl_X4 (by decide) x0 rfl dX11_input_66 rfl ?_
  refine kt_bipush (x := nI 6) dX11_input_69 (by decide) rfl ?_
  refine kt_icmp_eqN (tgt := 87) (by omega) (by decide) dX11_input_71 (by decide) rfl (fun h5 => ?_) (fun h5 => ?_)
  · exact kt_throw (k := 0) (names := ["java/lang/RuntimeException", "java/lang/Exception"]) rfl (by decide +kernel) (by decide +kernel) tw_cl0 tw_in0 tw_at0 (by decide) (Nat.le_of_ble_eq_true rfl) hSB dX11_input_87 dX11_input_90 dX11_input_91 dX11_input_94 ⟨rfl, rfl⟩
  · refine kt_aload_n dX11_input_74 rfl rfl ?_
    refine kt_getf (T := TX11) (kf := 0) kx_1053 rfl in_X11 cl_X11 (by decide) h0 rfl dX11_input_75 rfl ?_
    refine kt_getf (T := TX1) (kf := 1) kx_59 rfl in_X1 cl_X1 (by decide) e1 rfl dX11_input_78 rfl ?_
    refine kt_sipush (x := nI 600) dX11_input_81 (by decide) rfl ?_
    refine kt_icmp_leN (tgt := 95) (by omega) (by decide) dX11_input_84 (by decide) rfl (fun h6 => absurd h6 (by omega)) (fun h6 => ?_)
    exact kt_throw (k := 0) (names := ["java/lang/RuntimeException", "java/lang/Exception"]) rfl (by decide +kernel) (by decide +kernel) tw_cl0 tw_in0 tw_at0 (by decide) (Nat.le_of_ble_eq_true rfl) hSB dX11_input_87 dX11_input_90 dX11_input_91 dX11_input_94 ⟨rfl, rfl⟩
set_option maxRecDepth 100000 in
set_option maxHeartbeats 800000 in
theorem t_inputFD {l : Launch} {G : ks_G} {d : Nat} {S : ks_S} (htr : l.stackTraces = false) (hSB : S.1 < ks_B) {dc dp : Nat} {dt : Int64} {rs : Int32} (h0 : S.2.2 0 = some (jdO dc dp dt rs)) {T : List Nat} (hT : bfS S 1 2 1600 (some T)) {Ds : Nat → dTx} (hD : dfS S Ds) {q : Int64} {ix : Int32} {n best : Nat} {cc : Int32} {tk : Int64} {B : Nat → Bk} (hX : chX S n best cc tk B) {t : Nat} (ht31 : t < 2 ^ 31) (ht : t < dc) (hq : unL q = false) (hdc : 0 < dc ∧ dc ≤ 12) (hf : ¬ ((Ds (dc - 1)).2.2.1.length ≠ 6 ∧ T.length ≤ 600)) : kt_P l G yX11_input mX11_input (d + 9) [.ref 0, .int (-2), .int (nI t), .int ix, .long q] S (fun z S' => z = some (.int (nI 0)) ∧ S' = ks_one S) := by
  have h0 : S.2.2 0 = some (.inr (14, [.ref 1, .ref 3, .ref 5, .ref 7, .ref 14, .ref 20, .ref 27, .ref 41, .ref 52, .ref 53, .ref 54, .ref 55, .int (nI dc), .int (nI dp), .long dt, .int rs])) := h0
  obtain ⟨len, g, kg, hl16, e2, e1, ⟨hl, hg⟩⟩ := id hT
  have h52 := hD.1
  have hxd := hD.2 (dc - 1) (by omega)
  obtain ⟨xsz, xid, xix, xsq, xvl, xsc, xU, xI, xO⟩ := dx_len hxd
  have xB := xU.2.2.2.2.2.2.2.2.2.2.2.2.2.2
  have xk := xU.2.2.2.2.2.2.2.2.2.2.1
  have xm := xU.2.2.2.2.2.2.2.2.2.2.2.1
  have x0 := xU.1
  have x1 := xU.2.1
  refine kt_of htr (by decide) rfl rfl (Nat.le_of_ble_eq_true rfl) ?_
  show ks_Y l G mX11_input (d + 9) 0 [(0, .ref 0), (1, .int (-2)), (2, .int (nI t)), (3, .int ix), (4, .long q)] [] S _
  refine kt_lload dX11_input_0 rfl rfl ?_
  refine kt_callS (n := 1) (M' := mX11_isNotUnsigned) (c_jd_unsigned (d := d + 8) (v := q)) kx_1259 kx_1260 kx_1 kx_1261 (by decide +kernel) rfl (by decide) (Nat.le_of_ble_eq_true rfl) rfl dX11_input_2 rfl (fun z0 T0 y0 => ?_)
  obtain ⟨rfl, hT0⟩ := y0
  obtain rfl := hT0.symm
  rw [hq]
  refine kt_if_neZ (tgt := 28) dX11_input_5 (by decide) rfl (fun h => absurd h (by decide)) (fun _ => ?_)
  refine kt_iload_n dX11_input_8 rfl rfl ?_
  refine kt_bipush (x := (-2)) dX11_input_9 (by decide) rfl ?_
  refine kt_icmp_lt (tgt := 28) dX11_input_11 (by decide) rfl (fun h => absurd h (by decide)) (fun _ => ?_)
  refine kt_iload_n dX11_input_14 rfl rfl ?_
  refine kt_iconst (x := (-1)) dX11_input_15 (by decide) rfl ?_
  refine kt_icmp_eq (tgt := 36) dX11_input_16 (by decide) rfl (fun h => absurd h (by decide)) (fun _ => ?_)
  refine kt_aload_n dX11_input_19 rfl rfl ?_
  refine kt_iload_n dX11_input_20 rfl rfl ?_
  refine kt_iload_n dX11_input_21 rfl rfl ?_
  refine kt_callV (n := 2) (M' := mX11_hasTransaction) (c_jd_hasD (d := d + 8) h0 hX ht31 (by omega)) h0 cl_X11 rfl kx_1277 kx_1279 kxp_21 kx_1 kx_1280 (by decide +kernel) rfl (by decide) (Nat.le_of_ble_eq_true rfl) rfl dX11_input_22 rfl (fun z1 T1 y1 => ?_)
  obtain ⟨rfl, hT1⟩ := y1
  obtain rfl := hT1.symm
  rw [decide_eq_true ht]
  refine kt_if_neZ (tgt := 36) dX11_input_25 (by decide) rfl (fun _ => ?_) (fun h => absurd h (by decide))
  refine kt_aload_n dX11_input_36 rfl rfl ?_
  refine kt_getf (T := TX11) (kf := 12) kx_1065 rfl in_X11 cl_X11 (by decide) h0 rfl dX11_input_37 rfl ?_
  refine kt_if_neN (tgt := 51) (by omega) dX11_input_40 (by decide) rfl (fun h4 => ?_) (fun h4 => absurd h4 (by omega))
  refine kt_aload_n dX11_input_51 rfl rfl ?_
  refine kt_getf (T := TX11) (kf := 8) kx_1061 rfl in_X11 cl_X11 (by decide) h0 rfl dX11_input_52 rfl ?_
  refine kt_aload_n dX11_input_55 rfl rfl ?_
  refine kt_getf (T := TX11) (kf := 12) kx_1065 rfl in_X11 cl_X11 (by decide) h0 rfl dX11_input_56 rfl ?_
  refine kt_iconst (x := nI 1) dX11_input_59 (by decide) rfl ?_
  refine kt_subN (by omega) dX11_input_60 rfl ?_
  refine kt_aaldN (i := dc - 1) (b := (56 + 19 * (dc - 1))) (by decide) h52 rfl (by omega) (by decide) (if_pos (by omega)) dX11_input_61 rfl ?_
  refine kt_astore dX11_input_62 (by decide) rfl ?_
  refine kt_sub [(6, _), (0, _), (1, _), (2, _), (3, _), (4, _)] rfl ?_
  refine kt_aload dX11_input_64 rfl rfl ?_
  refine kt_getf (T := TX4) (kf := 0) kx_787 rfl in_X4 cl_X4 (by decide) x0 rfl dX11_input_66 rfl ?_
  refine kt_bipush (x := nI 6) dX11_input_69 (by decide) rfl ?_
  refine kt_icmp_eqN (tgt := 87) (by omega) (by decide) dX11_input_71 (by decide) rfl (fun h5 => ?_) (fun h5 => ?_)
  · exact kt_throw (k := 0) (names := ["java/lang/RuntimeException", "java/lang/Exception"]) rfl (by decide +kernel) (by decide +kernel) tw_cl0 tw_in0 tw_at0 (by decide) (Nat.le_of_ble_eq_true rfl) hSB dX11_input_87 dX11_input_90 dX11_input_91 dX11_input_94 ⟨rfl, rfl⟩
  · refine kt_aload_n dX11_input_74 rfl rfl ?_
    refine kt_getf (T := TX11) (kf := 0) kx_1053 rfl in_X11 cl_X11 (by decide) h0 rfl dX11_input_75 rfl ?_
    refine kt_getf (T := TX1) (kf := 1) kx_59 rfl in_X1 cl_X1 (by decide) e1 rfl dX11_input_78 rfl ?_
    refine kt_sipush (x := nI 600) dX11_input_81 (by decide) rfl ?_
    refine kt_icmp_leN (tgt := 95) (by omega) (by decide) dX11_input_84 (by decide) rfl (fun h6 => absurd h6 (by omega)) (fun h6 => ?_)
    exact kt_throw (k := 0) (names := ["java/lang/RuntimeException", "java/lang/Exception"]) rfl (by decide +kernel) (by decide +kernel) tw_cl0 tw_in0 tw_at0 (by decide) (Nat.le_of_ble_eq_true rfl) hSB dX11_input_87 dX11_input_90 dX11_input_91 dX11_input_94 ⟨rfl, rfl⟩
set_option maxRecDepth 100000 in
set_option maxHeartbeats 800000 in
theorem t_pushF {l : Launch} {G : ks_G} {d : Nat} {S : ks_S} (htr : l.stackTraces = false) (hSB : S.1 < ks_B) {dc dp : Nat} {dt : Int64} {rs : Int32} (h0 : S.2.2 0 = some (jdO dc dp dt rs)) {T : List Nat} (hT : bfS S 1 2 1600 (some T)) {Ds : Nat → dTx} (hD : dfS S Ds) (hdc : 0 < dc ∧ dc ≤ 12) {i : Nat} {x : dIn} (hxi : (Ds (dc - 1)).2.2.1[i]? = some x) (hx6 : x.2.2.1.length ≤ 600) (hfit : ¬ x.2.2.1.length + psz T.length ≤ 600) : kt_P l G yX11_push mX11_push (d + 9) [.ref 0, .int (nI i)] S (fun z S' => z = some (.int (nI 0)) ∧ S' = ks_one S) := by
  have h0 : S.2.2 0 = some (.inr (14, [.ref 1, .ref 3, .ref 5, .ref 7, .ref 14, .ref 20, .ref 27, .ref 41, .ref 52, .ref 53, .ref 54, .ref 55, .int (nI dc), .int (nI dp), .long dt, .int rs])) := h0
  obtain ⟨len, g, kg, hl16, e2, e1, ⟨hl, hg⟩⟩ := id hT
  have h52 := hD.1
  have hxd := hD.2 (dc - 1) (by omega)
  obtain ⟨xsz, xid, xix, xsq, xvl, xsc, xU, xI, xO⟩ := dx_len hxd
  have xB := xU.2.2.2.2.2.2.2.2.2.2.2.2.2.2
  have xk := xU.2.2.2.2.2.2.2.2.2.2.1
  have xm := xU.2.2.2.2.2.2.2.2.2.2.2.1
  have x0 := xU.1
  have x1 := xU.2.1
  have hik : i < (Ds (dc - 1)).2.2.1.length := by
    rcases Nat.lt_or_ge i (Ds (dc - 1)).2.2.1.length with h | h
    · exact h
    · simp [h] at hxi
  have hszi := dx_sz xI hxi
  have hps : psz len = psz T.length := by rw [hl]
  refine kt_of htr (by decide) rfl rfl (Nat.le_of_ble_eq_true rfl) ?_
  show ks_Y l G mX11_push (d + 9) 0 [(0, .ref 0), (1, .int (nI i))] [] S _
  refine kt_aload_n dX11_push_0 rfl rfl ?_
  refine kt_getf (T := TX11) (kf := 12) kx_1065 rfl in_X11 cl_X11 (by decide) h0 rfl dX11_push_1 rfl ?_
  refine kt_if_neN (tgt := 15) (by omega) dX11_push_4 (by decide) rfl (fun h1 => ?_) (fun h1 => absurd h1 (by omega))
  refine kt_aload_n dX11_push_15 rfl rfl ?_
  refine kt_getf (T := TX11) (kf := 8) kx_1061 rfl in_X11 cl_X11 (by decide) h0 rfl dX11_push_16 rfl ?_
  refine kt_aload_n dX11_push_19 rfl rfl ?_
  refine kt_getf (T := TX11) (kf := 12) kx_1065 rfl in_X11 cl_X11 (by decide) h0 rfl dX11_push_20 rfl ?_
  refine kt_iconst (x := nI 1) dX11_push_23 (by decide) rfl ?_
  refine kt_subN (by omega) dX11_push_24 rfl ?_
  refine kt_aaldN (i := dc - 1) (b := (56 + 19 * (dc - 1))) (by decide) h52 rfl (by omega) (by decide) (if_pos (by omega)) dX11_push_25 rfl ?_
  refine kt_astore_n dX11_push_26 (by decide) rfl ?_
  refine kt_sub [(2, _), (0, _), (1, _)] rfl ?_
  refine kt_iload_n dX11_push_27 rfl rfl ?_
  refine kt_if_ltN (tgt := 39) (by omega) dX11_push_28 (by decide) rfl ?_
  refine kt_iload_n dX11_push_31 rfl rfl ?_
  refine kt_aload_n dX11_push_32 rfl rfl ?_
  refine kt_getf (T := TX4) (kf := 0) kx_787 rfl in_X4 cl_X4 (by decide) x0 rfl dX11_push_33 rfl ?_
  refine kt_icmp_ltN (tgt := 47) (by omega) (by omega) dX11_push_36 (by decide) rfl (fun h2 => ?_) (fun h2 => absurd h2 (by omega))
  refine kt_aload_n dX11_push_47 rfl rfl ?_
  refine kt_getf (T := TX4) (kf := 2) kx_791 rfl in_X4 cl_X4 (by decide) x0 rfl dX11_push_48 rfl ?_
  refine kt_iload_n dX11_push_51 rfl rfl ?_
  refine kt_ialdN (i := i) x1 rfl (by omega) (by decide) dX11_push_52 rfl ?_
  refine kt_aload_n dX11_push_53 rfl rfl ?_
  refine kt_getf (T := TX11) (kf := 0) kx_1053 rfl in_X11 cl_X11 (by decide) h0 rfl dX11_push_54 rfl ?_
  refine kt_getf (T := TX1) (kf := 1) kx_59 rfl in_X1 cl_X1 (by decide) e1 rfl dX11_push_57 rfl ?_
  refine kt_callS (n := 1) (M' := mX4_pushSize) (c_pushSize (d := d + 8) (n := len) (by omega)) kx_1310 kx_1311 kx_28 kx_1312 (by decide +kernel) rfl (by decide) (Nat.le_of_ble_eq_true rfl) rfl dX11_push_60 rfl (fun z1 T1 y1 => ?_)
  obtain ⟨rfl, hT1⟩ := y1
  obtain rfl := hT1.symm
  have p31 : psz len ≤ len + 3 := by unfold psz; split; omega; split <;> omega
  refine kt_addN dX11_push_63 rfl ?_
  refine kt_sipush (x := nI 600) dX11_push_64 (by decide) rfl ?_
  refine kt_icmp_leN (tgt := 78) (by omega) (by decide) dX11_push_67 (by decide) rfl (fun h3 => absurd h3 (by omega)) (fun h3 => ?_)
  exact kt_throw (k := 0) (names := ["java/lang/RuntimeException", "java/lang/Exception"]) rfl (by decide +kernel) (by decide +kernel) tw_cl0 tw_in0 tw_at0 (by decide) (Nat.le_of_ble_eq_true rfl) hSB dX11_push_70 dX11_push_73 dX11_push_74 dX11_push_77 ⟨rfl, rfl⟩
set_option maxRecDepth 100000 in
set_option maxHeartbeats 800000 in
theorem t_signF {l : Launch} {G : ks_G} {d : Nat} {S : ks_S} (htr : l.stackTraces = false) (hSB : S.1 < ks_B) {dc dp : Nat} {dt : Int64} {rs : Int32} (h0 : S.2.2 0 = some (jdO dc dp dt rs)) {Ds : Nat → dTx} (hD : dfS S Ds) (hdc : 0 < dc ∧ dc ≤ 12) {i q : Nat} {y : Int32} {x : dIn} (hxi : (Ds (dc - 1)).2.2.1[i]? = some x) (hy : ¬ y < nI 1) (hq : q ≤ 255) (hx6 : x.2.2.1.length ≤ 600) (hfit : ¬ x.2.2.1.length ≤ 500) : kt_P l G yX11_sign mX11_sign (d + 9) [.ref 0, .int (nI i), .int y, .int (nI q)] S (fun z S' => z = some (.int (nI 0)) ∧ S' = ks_one S) := by
  have h0 : S.2.2 0 = some (.inr (14, [.ref 1, .ref 3, .ref 5, .ref 7, .ref 14, .ref 20, .ref 27, .ref 41, .ref 52, .ref 53, .ref 54, .ref 55, .int (nI dc), .int (nI dp), .long dt, .int rs])) := h0
  have h52 := hD.1
  have hxd := hD.2 (dc - 1) (by omega)
  obtain ⟨xsz, xid, xix, xsq, xvl, xsc, xU, xI, xO⟩ := dx_len hxd
  have xB := xU.2.2.2.2.2.2.2.2.2.2.2.2.2.2
  have xk := xU.2.2.2.2.2.2.2.2.2.2.1
  have xm := xU.2.2.2.2.2.2.2.2.2.2.2.1
  have x0 := xU.1
  have x1 := xU.2.1
  have hik : i < (Ds (dc - 1)).2.2.1.length := by
    rcases Nat.lt_or_ge i (Ds (dc - 1)).2.2.1.length with h | h
    · exact h
    · simp [h] at hxi
  have hszi := dx_sz xI hxi
  refine kt_of htr (by decide) rfl rfl (Nat.le_of_ble_eq_true rfl) ?_
  show ks_Y l G mX11_sign (d + 9) 0 [(0, .ref 0), (1, .int (nI i)), (2, .int y), (3, .int (nI q))] [] S _
  refine kt_aload_n dX11_sign_0 rfl rfl ?_
  refine kt_getf (T := TX11) (kf := 12) kx_1065 rfl in_X11 cl_X11 (by decide) h0 rfl dX11_sign_1 rfl ?_
  refine kt_if_neN (tgt := 15) (by omega) dX11_sign_4 (by decide) rfl (fun h1 => ?_) (fun h1 => absurd h1 (by omega))
  refine kt_aload_n dX11_sign_15 rfl rfl ?_
  refine kt_getf (T := TX11) (kf := 8) kx_1061 rfl in_X11 cl_X11 (by decide) h0 rfl dX11_sign_16 rfl ?_
  refine kt_aload_n dX11_sign_19 rfl rfl ?_
  refine kt_getf (T := TX11) (kf := 12) kx_1065 rfl in_X11 cl_X11 (by decide) h0 rfl dX11_sign_20 rfl ?_
  refine kt_iconst (x := nI 1) dX11_sign_23 (by decide) rfl ?_
  refine kt_subN (by omega) dX11_sign_24 rfl ?_
  refine kt_aaldN (i := dc - 1) (b := (56 + 19 * (dc - 1))) (by decide) h52 rfl (by omega) (by decide) (if_pos (by omega)) dX11_sign_25 rfl ?_
  refine kt_astore dX11_sign_26 (by decide) rfl ?_
  refine kt_sub [(4, _), (0, _), (1, _), (2, _), (3, _)] rfl ?_
  refine kt_iload_n dX11_sign_28 rfl rfl ?_
  refine kt_if_ltN (tgt := 57) (by omega) dX11_sign_29 (by decide) rfl ?_
  refine kt_iload_n dX11_sign_32 rfl rfl ?_
  refine kt_aload dX11_sign_33 rfl rfl ?_
  refine kt_getf (T := TX4) (kf := 0) kx_787 rfl in_X4 cl_X4 (by decide) x0 rfl dX11_sign_35 rfl ?_
  refine kt_icmp_geN (tgt := 57) (by omega) (by omega) dX11_sign_38 (by decide) rfl (fun h2 => absurd h2 (by omega)) (fun h2 => ?_)
  refine kt_iload_n dX11_sign_41 rfl rfl ?_
  refine kt_iconst (x := nI 1) dX11_sign_42 (by decide) rfl ?_
  refine kt_icmp_lt (tgt := 57) dX11_sign_43 (by decide) rfl (fun h => absurd h hy) (fun _ => ?_)
  refine kt_iload_n dX11_sign_46 rfl rfl ?_
  refine kt_if_ltN (tgt := 57) (by omega) dX11_sign_47 (by decide) rfl ?_
  refine kt_iload_n dX11_sign_50 rfl rfl ?_
  refine kt_sipush (x := nI 255) dX11_sign_51 (by decide) rfl ?_
  refine kt_icmp_leN (tgt := 65) (by omega) (by decide) dX11_sign_54 (by decide) rfl (fun h4 => ?_) (fun h4 => absurd h4 (by omega))
  refine kt_aload dX11_sign_65 rfl rfl ?_
  refine kt_getf (T := TX4) (kf := 2) kx_791 rfl in_X4 cl_X4 (by decide) x0 rfl dX11_sign_67 rfl ?_
  refine kt_iload_n dX11_sign_70 rfl rfl ?_
  refine kt_ialdN (i := i) x1 rfl (by omega) (by decide) dX11_sign_71 rfl ?_
  refine kt_sipush (x := nI 500) dX11_sign_72 (by decide) rfl ?_
  refine kt_icmp_leN (tgt := 86) (by omega) (by decide) dX11_sign_75 (by decide) rfl (fun h5 => absurd h5 (by omega)) (fun h5 => ?_)
  exact kt_throw (k := 0) (names := ["java/lang/RuntimeException", "java/lang/Exception"]) rfl (by decide +kernel) (by decide +kernel) tw_cl0 tw_in0 tw_at0 (by decide) (Nat.le_of_ble_eq_true rfl) hSB dX11_sign_78 dX11_sign_81 dX11_sign_82 dX11_sign_85 ⟨rfl, rfl⟩

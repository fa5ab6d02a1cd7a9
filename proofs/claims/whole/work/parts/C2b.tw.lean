/-! THE WORDS OF THROWS -/
theorem pl_in {ws : List Cond} (ps : List Nat) (hp : ws = ps.filterMap (fun i => tables_1[i]?)) (h : ws.all (fun w => goodWord w || ks_thw w) = true) : ∀ w ∈ ws, w ∈ lw_tbl ∧ (goodWord w || ks_thw w) = true := by
  intro w hw
  have h1 := List.all_eq_true.mp h w hw
  rw [hp] at hw
  obtain ⟨i, -, hi⟩ := List.mem_filterMap.mp hw
  exact ⟨List.mem_append_right _ (List.mem_of_getElem? hi), h1⟩
set_option maxRecDepth 100000 in
theorem tw_at0 : ∀ w ∈ vx_at0 "CoinJudge" 98 "java/lang/IndexOutOfBoundsException" ["java/lang/RuntimeException", "java/lang/Exception"], w ∈ lw_tbl ∧ (goodWord w || ks_thw w) = true := pl_in [7, 177, 186, 192, 195, 197, 178, 179, 43, 44, 180, 185, 193, 428, 167, 429, 169, 430, 171, 181, 183, 173, 1133, 1134, 1135, 1136, 158, 1136, 1137, 1138, 1139, 160, 1139, 1140, 1141, 178, 162, 1132, 1124, 1125, 1126, 190, 1127, 1128, 1129, 1130, 176, 175, 1131] (by decide +kernel) (by decide +kernel)
set_option maxRecDepth 100000 in
theorem tw_cl0 : Cond.classLink "CoinJudge" 96 "java/lang/IndexOutOfBoundsException" ∈ lw_tbl := List.mem_append_right _ (List.mem_of_getElem? (i := 1123) (by decide +kernel))
set_option maxRecDepth 100000 in
theorem tw_in0 : Cond.initialized "java/lang/IndexOutOfBoundsException" ∈ lw_tbl := List.mem_append_right _ (List.mem_of_getElem? (i := 21) (by decide +kernel))
set_option maxRecDepth 100000 in
theorem tw_at1 : ∀ w ∈ vx_at0 "CoinJudge" 104 "java/lang/IllegalArgumentException" ["java/lang/RuntimeException", "java/lang/Exception"], w ∈ lw_tbl ∧ (goodWord w || ks_thw w) = true := pl_in [7, 177, 186, 192, 195, 197, 178, 179, 43, 44, 180, 185, 193, 428, 167, 429, 169, 430, 171, 181, 183, 173, 1161, 1162, 1163, 1136, 158, 1136, 1137, 1138, 1139, 160, 1139, 1140, 1141, 178, 162, 1160, 156, 157, 164, 165, 166, 168, 170, 172, 176, 175, 174] (by decide +kernel) (by decide +kernel)
set_option maxRecDepth 100000 in
theorem tw_cl1 : Cond.classLink "CoinJudge" 102 "java/lang/IllegalArgumentException" ∈ lw_tbl := List.mem_append_right _ (List.mem_of_getElem? (i := 1159) (by decide +kernel))
set_option maxRecDepth 100000 in
theorem tw_in1 : Cond.initialized "java/lang/IllegalArgumentException" ∈ lw_tbl := List.mem_append_right _ (List.mem_of_getElem? (i := 10) (by decide +kernel))
set_option maxRecDepth 100000 in
theorem tw_at2 : ∀ w ∈ vx_at0 "CoinJudge" 155 "java/lang/IllegalStateException" ["java/lang/RuntimeException", "java/lang/Exception"], w ∈ lw_tbl ∧ (goodWord w || ks_thw w) = true := pl_in [7, 177, 186, 192, 195, 197, 178, 179, 43, 44, 180, 185, 193, 428, 167, 429, 169, 430, 171, 181, 183, 173, 1291, 1292, 1293, 1136, 158, 1136, 1137, 1138, 1139, 160, 1139, 1140, 1141, 178, 162, 1290, 1282, 1283, 1284, 189, 1285, 1286, 1287, 1288, 176, 175, 1289] (by decide +kernel) (by decide +kernel)
set_option maxRecDepth 100000 in
theorem tw_cl2 : Cond.classLink "CoinJudge" 153 "java/lang/IllegalStateException" ∈ lw_tbl := List.mem_append_right _ (List.mem_of_getElem? (i := 1281) (by decide +kernel))
set_option maxRecDepth 100000 in
theorem tw_in2 : Cond.initialized "java/lang/IllegalStateException" ∈ lw_tbl := List.mem_append_right _ (List.mem_of_getElem? (i := 35) (by decide +kernel))
set_option maxRecDepth 100000 in
theorem tw_at3 : ∀ w ∈ vx_at0 "CoinJudge" 242 "java/lang/UnsupportedOperationException" ["java/lang/RuntimeException", "java/lang/Exception"], w ∈ lw_tbl ∧ (goodWord w || ks_thw w) = true := pl_in [7, 177, 186, 192, 195, 197, 178, 179, 43, 44, 180, 185, 193, 428, 167, 429, 169, 430, 171, 181, 183, 173, 1510, 1511, 1512, 1136, 158, 1136, 1137, 1138, 1139, 160, 1139, 1140, 1141, 178, 162, 1509, 1501, 1502, 1503, 191, 1504, 1505, 1506, 1507, 176, 175, 1508] (by decide +kernel) (by decide +kernel)
set_option maxRecDepth 100000 in
theorem tw_cl3 : Cond.classLink "CoinJudge" 240 "java/lang/UnsupportedOperationException" ∈ lw_tbl := List.mem_append_right _ (List.mem_of_getElem? (i := 1500) (by decide +kernel))
set_option maxRecDepth 100000 in
theorem tw_in3 : Cond.initialized "java/lang/UnsupportedOperationException" ∈ lw_tbl := List.mem_append_right _ (List.mem_of_getElem? (i := 36) (by decide +kernel))

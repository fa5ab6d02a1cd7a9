/-! THE REFERENCE: reckon -/
theorem iL_one (a : Int) : iL a + lN 1 = iL (a + 1) := iL_add a 1
theorem iL_mone (a : Int) : iL a - lN 1 = iL (a - 1) := iL_sub a 1
theorem rk_none {op : Nat} {xs ys : List (List Nat)} {i : Nat} (hi : i < tkO op) (h : ¬ okN xs i) : rkS op xs ys = none := by
  unfold rkS
  rw [if_neg (fun h2 => h (h2 i hi))]
theorem iL_zero : lN 0 = iL 0 := rfl
set_option maxRecDepth 100000 in
set_option maxHeartbeats 3200000 in
theorem c_rs_reckon {l : Launch} {G : ks_G} {d : Nat} {S : ks_S} {V : Nat → Value} {F : Nat} {xs ys : List (List Nat)} {vs : Vs} (hO : S.2.2 290 = some (rfE V)) (hK : rsQ S V F xs ys vs) {op : Nat} (hop1 : 139 ≤ op ∧ op ≤ 165) (hnb : badO op = false) (hl : xs.length + ys.length ≤ 1000) (v74 : V 74 = .int (ks_bo false)) : ks_P l G yX16_reckon mX16_reckon (d + 5) [.ref 290, .int (nI op)] S (fun z S' => z = none ∧ opR S S' V F (rkS op xs ys) vs) := by
  have hop : op < 256 := by omega
  have nb : ¬ ((126 ≤ op ∧ op ≤ 129) ∨ (131 ≤ op ∧ op ≤ 134) ∨ op = 141 ∨ op = 142 ∨ (149 ≤ op ∧ op ≤ 153) ∨ op = 101 ∨ op = 102) := of_decide_eq_false hnb
  obtain ⟨v67, v70, v73, bx, by9, bv⟩ := hK.v67
  have from1 : tkO op = 1 → 1 ≤ xs.length → ks_X l G mX16_reckon (d + 5) 33 [(0, .ref 290), (1, .int (nI op)), (2, .int (nI 1))] [] S (fun z S' => z = none ∧ opR S S' V F (rkS op xs ys) vs) := by
    intro etk hn
    refine ks_aload_n dX16_reckon_33 rfl rfl ?_
    refine ks_iconst (x := nI 0) dX16_reckon_34 (by decide) rfl ?_
    refine ks_iconst (x := nI 4) dX16_reckon_35 (by decide) rfl ?_
    refine ks_callV (n := 2) (M' := mX16_numberAt) (c_rs_numberAt (d := d + 4) hO hK (k := 0) (mo := 4) (by omega) (by decide)) hO cl_X16 rfl kx_2196 kx_2198 kxp_94 kx_30 kx_2199 (by decide +kernel) rfl (by decide) (Nat.le_of_ble_eq_true rfl) rfl dX16_reckon_36 rfl (fun z0 S0 y0 => ?_)
    obtain ⟨rfl, k0, j0⟩ := y0
    by_cases c0 : (xs.getD 0 []).length ≤ 4
    · have e0 := k0 c0
      obtain rfl := e0.symm
      rw [if_pos c0]
      have nb0 := numV_b4 c0 (by obtain ⟨_, _, _, _, h9, _⟩ := hK; exact rsK_b h9 (by omega))
      obtain ⟨n0, en0⟩ : ∃ n, n = numV (xs.getD 0 []) := ⟨_, rfl⟩
      rw [← en0] at nb0 ⊢
      refine ks_lstore_n dX16_reckon_39 (by decide) rfl ?_
      refine ks_sub [(3, _), (0, _), (1, _), (2, _)] rfl ?_
      refine ks_iload_n dX16_reckon_40 rfl rfl ?_
      refine ks_iconst (x := nI 1) dX16_reckon_41 (by decide) rfl ?_
      refine ks_icmp_leN (tgt := 54) (by decide) (by decide) dX16_reckon_42 (by decide) rfl (fun _ => ?_) (fun h => absurd h (by decide))
      refine ks_lconst (x := lN 0) dX16_reckon_54 (by decide) rfl ?_
      refine ks_lstore dX16_reckon_55 (by decide) rfl ?_
      refine ks_sub [(5, _), (0, _), (1, _), (2, _), (3, _)] rfl ?_
      refine ks_iload_n dX16_reckon_57 rfl rfl ?_
      refine ks_iconst (x := nI 2) dX16_reckon_58 (by decide) rfl ?_
      refine ks_icmp_leN (tgt := 71) (by decide) (by decide) dX16_reckon_59 (by decide) rfl (fun _ => ?_) (fun h => absurd h (by decide))
      refine ks_lconst (x := lN 0) dX16_reckon_71 (by decide) rfl ?_
      refine ks_lstore dX16_reckon_72 (by decide) rfl ?_
      refine ks_sub [(7, _), (0, _), (1, _), (2, _), (3, _), (5, _)] rfl ?_
      refine ks_aload_n dX16_reckon_74 rfl rfl ?_
      refine ks_getf (T := TX16) (kf := 74) kx_2442 rfl in_X16 cl_X16 (by decide) hO rfl dX16_reckon_75 rfl ?_
      refine ks_tv v74 ?_
      refine ks_if_eqZ (tgt := 82) dX16_reckon_78 (by decide) rfl (fun hf => ?_) (fun hf => ?_)
      · have good : ∀ i, i < tkO op → okN xs i := fun i hi => by
          rw [etk] at hi
          obtain rfl : i = 0 := by omega
          exact ⟨by omega, c0⟩
        obtain ⟨Q3, M3⟩ := rsQ.pop (k := 1) hO hK
        have v743 : (va_up V 67 (.int (nI (xs.length - 1)))) 74 = .int (ks_bo false) := (va_up_ne _ _ (by decide)).trans v74
        have ld : (xs.drop 1).length = xs.length - 1 := List.length_drop
        refine ks_aload_n dX16_reckon_82 rfl rfl ?_
        refine ks_dup dX16_reckon_83 rfl rfl ?_
        refine ks_getf (T := TX16) (kf := 67) kx_2435 rfl in_X16 cl_X16 (by decide) hO rfl dX16_reckon_84 rfl ?_
        refine ks_tv v67 ?_
        refine ks_iload_n dX16_reckon_87 rfl rfl ?_
        refine ks_subN (by omega) dX16_reckon_88 rfl ?_
        refine ks_putf (T := TX16) (kf := 67) kx_2435 rfl in_X16 tyX16_ok nmX16 cl_X16 (by decide) hO (Nat.le_of_ble_eq_true rfl) rfl rfl rfl rfl dX16_reckon_89 rfl ?_
        refine md_put mdp_67 ?_
        have o3 : (ks_set S 290 (rfE (va_up V 67 (.int (nI (xs.length - 1)))))).2.2 290 = some (rfE (va_up V 67 (.int (nI (xs.length - 1))))) := ks_set_same _ _ _
        refine ks_iload_n dX16_reckon_92 rfl rfl ?_
        have hsw : op = 139 ∨ op = 140 ∨ op = 141 ∨ op = 142 ∨ op = 143 ∨ op = 144 ∨ op = 145 ∨ op = 146 ∨ op = 147 ∨ op = 148 ∨ op = 149 ∨ op = 150 ∨ op = 151 ∨ op = 152 ∨ op = 153 ∨ op = 154 ∨ op = 155 ∨ op = 156 ∨ op = 157 ∨ op = 158 ∨ op = 159 ∨ op = 160 ∨ op = 161 ∨ op = 162 ∨ op = 163 ∨ op = 164 ∨ ((op < 139 ∨ 164 < op)) := by omega
        rcases hsw with rfl | rfl | rfl | rfl | rfl | rfl | rfl | rfl | rfl | rfl | rfl | rfl | rfl | rfl | rfl | rfl | rfl | rfl | rfl | rfl | rfl | rfl | rfl | rfl | rfl | rfl | hsw
        · refine ks_tableIn (off := 119) (tgt := 212) dX16_reckon_93 (by decide) (by decide) (by decide) (by decide) ?_
          refine ks_aload_n dX16_reckon_212 rfl rfl ?_
          refine ks_lload_n dX16_reckon_213 rfl rfl ?_
          refine ks_lconst (x := lN 1) dX16_reckon_214 (by decide) rfl ?_
          refine ks_ladd dX16_reckon_215 rfl ?_
          refine ks_tl (y := iL (n0 + 1)) (iL_one _) ?_
          refine ks_callV (n := 1) (M' := mX16_pushNumber) (c_rs_pushNumber (d := d + 2) o3 Q3 (v := (n0 + 1)) (by omega)) o3 cl_X16 rfl kx_2184 kx_2186 kxp_91 kx_30 kx_2187 (by decide +kernel) rfl (by decide) (Nat.le_of_ble_eq_true rfl) rfl dX16_reckon_216 rfl (fun zz SS yy => ?_)
          obtain ⟨rfl, V9, F9, m9, hc⟩ := yy
          rcases hc with ⟨ca, cb, cc⟩ | ⟨ca, cb, cc⟩
          · refine ks_goto (tgt := 560) dX16_reckon_219 (by decide) ?_
            refine ks_ret rfl dX16_reckon_560 ?_
            refine ⟨rfl, V9, F9, _, ys, M3.trans m9, cc, Or.inl ⟨cb.trans v743, ?_⟩⟩
            unfold rkS
            rw [if_pos good]
            show some (numI (rk1 139 (numV (xs.getD 0 []))) :: _, _) = _
            rw [← en0]
            rfl
          · rw [ld] at ca
            omega
        · refine ks_tableIn (off := 129) (tgt := 222) dX16_reckon_93 (by decide) (by decide) (by decide) (by decide) ?_
          refine ks_aload_n dX16_reckon_222 rfl rfl ?_
          refine ks_lload_n dX16_reckon_223 rfl rfl ?_
          refine ks_lconst (x := lN 1) dX16_reckon_224 (by decide) rfl ?_
          refine ks_lsub dX16_reckon_225 rfl ?_
          refine ks_tl (y := iL (n0 - 1)) (iL_mone _) ?_
          refine ks_callV (n := 1) (M' := mX16_pushNumber) (c_rs_pushNumber (d := d + 2) o3 Q3 (v := (n0 - 1)) (by omega)) o3 cl_X16 rfl kx_2184 kx_2186 kxp_91 kx_30 kx_2187 (by decide +kernel) rfl (by decide) (Nat.le_of_ble_eq_true rfl) rfl dX16_reckon_226 rfl (fun zz SS yy => ?_)
          obtain ⟨rfl, V9, F9, m9, hc⟩ := yy
          rcases hc with ⟨ca, cb, cc⟩ | ⟨ca, cb, cc⟩
          · refine ks_goto (tgt := 560) dX16_reckon_229 (by decide) ?_
            refine ks_ret rfl dX16_reckon_560 ?_
            refine ⟨rfl, V9, F9, _, ys, M3.trans m9, cc, Or.inl ⟨cb.trans v743, ?_⟩⟩
            unfold rkS
            rw [if_pos good]
            show some (numI (rk1 140 (numV (xs.getD 0 []))) :: _, _) = _
            rw [← en0]
            rfl
          · rw [ld] at ca
            omega
        · refine ks_tableIn (off := 443) (tgt := 536) dX16_reckon_93 (by decide) (by decide) (by decide) (by decide) ?_
          omega
        · refine ks_tableIn (off := 443) (tgt := 536) dX16_reckon_93 (by decide) (by decide) (by decide) (by decide) ?_
          omega
        · refine ks_tableIn (off := 139) (tgt := 232) dX16_reckon_93 (by decide) (by decide) (by decide) (by decide) ?_
          refine ks_aload_n dX16_reckon_232 rfl rfl ?_
          refine ks_lload_n dX16_reckon_233 rfl rfl ?_
          refine ks_lneg dX16_reckon_234 rfl ?_
          refine ks_tl (y := iL (-n0)) (iL_neg _) ?_
          refine ks_callV (n := 1) (M' := mX16_pushNumber) (c_rs_pushNumber (d := d + 2) o3 Q3 (v := (-n0)) (by omega)) o3 cl_X16 rfl kx_2184 kx_2186 kxp_91 kx_30 kx_2187 (by decide +kernel) rfl (by decide) (Nat.le_of_ble_eq_true rfl) rfl dX16_reckon_235 rfl (fun zz SS yy => ?_)
          obtain ⟨rfl, V9, F9, m9, hc⟩ := yy
          rcases hc with ⟨ca, cb, cc⟩ | ⟨ca, cb, cc⟩
          · refine ks_goto (tgt := 560) dX16_reckon_238 (by decide) ?_
            refine ks_ret rfl dX16_reckon_560 ?_
            refine ⟨rfl, V9, F9, _, ys, M3.trans m9, cc, Or.inl ⟨cb.trans v743, ?_⟩⟩
            unfold rkS
            rw [if_pos good]
            show some (numI (rk1 143 (numV (xs.getD 0 []))) :: _, _) = _
            rw [← en0]
            rfl
          · rw [ld] at ca
            omega
        · refine ks_tableIn (off := 148) (tgt := 241) dX16_reckon_93 (by decide) (by decide) (by decide) (by decide) ?_
          refine ks_aload_n dX16_reckon_241 rfl rfl ?_
          refine ks_lload_n dX16_reckon_242 rfl rfl ?_
          refine ks_lconst (x := lN 0) dX16_reckon_243 (by decide) rfl ?_
          refine ks_lif_ge (tgt := 253) dX16_reckon_244 rfl dX16_reckon_245 (by decide) rfl (fun hb => ?_) (fun hb => ?_)
          · have p0 : 0 ≤ n0 := (iL_le (a := 0) (b := n0) (by omega) (by omega) (by omega) (by omega)).mp hb
            refine ks_lload_n dX16_reckon_253 rfl rfl ?_
            refine ks_callV (n := 1) (M' := mX16_pushNumber) (c_rs_pushNumber (d := d + 2) o3 Q3 (v := n0) (by omega)) o3 cl_X16 rfl kx_2184 kx_2186 kxp_91 kx_30 kx_2187 (by decide +kernel) rfl (by decide) (Nat.le_of_ble_eq_true rfl) rfl dX16_reckon_254 rfl (fun zz SS yy => ?_)
            obtain ⟨rfl, V9, F9, m9, hc⟩ := yy
            rcases hc with ⟨ca, cb, cc⟩ | ⟨ca, cb, cc⟩
            · refine ks_goto (tgt := 560) dX16_reckon_257 (by decide) ?_
              refine ks_ret rfl dX16_reckon_560 ?_
              refine ⟨rfl, V9, F9, _, ys, M3.trans m9, cc, Or.inl ⟨cb.trans v743, ?_⟩⟩
              unfold rkS
              rw [if_pos good]
              show some (numI (rk1 144 (numV (xs.getD 0 []))) :: _, _) = _
              rw [← en0]
              rw [show rk1 144 n0 = n0 from if_neg (show ¬ n0 < 0 by omega)]
            · rw [ld] at ca
              omega
          · have p0 : n0 < 0 := Int.not_le.mp (fun h => hb ((iL_le (a := 0) (b := n0) (by omega) (by omega) (by omega) (by omega)).mpr h))
            refine ks_lload_n dX16_reckon_248 rfl rfl ?_
            refine ks_lneg dX16_reckon_249 rfl ?_
            refine ks_tl (y := iL (-n0)) (iL_neg _) ?_
            refine ks_goto (tgt := 254) dX16_reckon_250 (by decide) ?_
            refine ks_callV (n := 1) (M' := mX16_pushNumber) (c_rs_pushNumber (d := d + 2) o3 Q3 (v := (-n0)) (by omega)) o3 cl_X16 rfl kx_2184 kx_2186 kxp_91 kx_30 kx_2187 (by decide +kernel) rfl (by decide) (Nat.le_of_ble_eq_true rfl) rfl dX16_reckon_254 rfl (fun zz SS yy => ?_)
            obtain ⟨rfl, V9, F9, m9, hc⟩ := yy
            rcases hc with ⟨ca, cb, cc⟩ | ⟨ca, cb, cc⟩
            · refine ks_goto (tgt := 560) dX16_reckon_257 (by decide) ?_
              refine ks_ret rfl dX16_reckon_560 ?_
              refine ⟨rfl, V9, F9, _, ys, M3.trans m9, cc, Or.inl ⟨cb.trans v743, ?_⟩⟩
              unfold rkS
              rw [if_pos good]
              show some (numI (rk1 144 (numV (xs.getD 0 []))) :: _, _) = _
              rw [← en0]
              rw [show rk1 144 n0 = -n0 from if_pos p0]
            · rw [ld] at ca
              omega
        · refine ks_tableIn (off := 167) (tgt := 260) dX16_reckon_93 (by decide) (by decide) (by decide) (by decide) ?_
          refine ks_aload_n dX16_reckon_260 rfl rfl ?_
          refine ks_lload_n dX16_reckon_261 rfl rfl ?_
          refine ks_lconst (x := lN 0) dX16_reckon_262 (by decide) rfl ?_
          refine ks_lif_ne (tgt := 271) dX16_reckon_263 rfl dX16_reckon_264 (by decide) rfl (fun hb => ?_) (fun hb => ?_)
          · have p0 : ¬ n0 = 0 := fun h => hb ((iL_eq (a := n0) (b := 0) (by omega) (by omega) (by omega) (by omega)).mpr h)
            refine ks_iconst (x := nI 0) dX16_reckon_271 (by decide) rfl ?_
            refine ks_iload_n dX16_reckon_272 rfl rfl ?_
            refine ks_sipush (x := nI 145) dX16_reckon_273 (by decide) rfl ?_
            refine ks_icmp_neN (tgt := 283) (by decide) (by decide) dX16_reckon_276 (by decide) rfl (fun h => absurd h (by decide)) (fun _ => ?_)
            refine ks_iconst (x := nI 1) dX16_reckon_279 (by decide) rfl ?_
            refine ks_goto (tgt := 284) dX16_reckon_280 (by decide) ?_
            refine ks_icmp_neN (tgt := 291) (by decide) (by decide) dX16_reckon_284 (by decide) rfl (fun _ => ?_) (fun h => absurd h (by decide))
            refine ks_iconst (x := nI 0) dX16_reckon_291 (by decide) rfl ?_
            refine ks_callV (n := 1) (M' := mX16_pushTruth) (c_rs_pushTruth (d := d + 1) o3 Q3 (b := false)) o3 cl_X16 rfl kx_2200 kx_2202 kxp_95 kx_30 kx_2203 (by decide +kernel) rfl (by decide) (Nat.le_of_ble_eq_true rfl) rfl dX16_reckon_292 rfl (fun zz SS yy => ?_)
            obtain ⟨rfl, V9, F9, m9, hc⟩ := yy
            rcases hc with ⟨ca, cb, cc⟩ | ⟨ca, cb, cc⟩
            · refine ks_goto (tgt := 560) dX16_reckon_295 (by decide) ?_
              refine ks_ret rfl dX16_reckon_560 ?_
              refine ⟨rfl, V9, F9, _, ys, M3.trans m9, cc, Or.inl ⟨cb.trans v743, ?_⟩⟩
              unfold rkS
              rw [if_pos good]
              show some (numI (rk1 145 (numV (xs.getD 0 []))) :: _, _) = _
              rw [← en0]
              rw [show rk1 145 n0 = 0 from if_neg p0]
              rw [show flagL false = numI 0 by decide]
            · rw [ld] at ca
              omega
          · have p0 : n0 = 0 := (iL_eq (a := n0) (b := 0) (by omega) (by omega) (by omega) (by omega)).mp hb
            refine ks_iconst (x := nI 1) dX16_reckon_267 (by decide) rfl ?_
            refine ks_goto (tgt := 272) dX16_reckon_268 (by decide) ?_
            refine ks_iload_n dX16_reckon_272 rfl rfl ?_
            refine ks_sipush (x := nI 145) dX16_reckon_273 (by decide) rfl ?_
            refine ks_icmp_neN (tgt := 283) (by decide) (by decide) dX16_reckon_276 (by decide) rfl (fun h => absurd h (by decide)) (fun _ => ?_)
            refine ks_iconst (x := nI 1) dX16_reckon_279 (by decide) rfl ?_
            refine ks_goto (tgt := 284) dX16_reckon_280 (by decide) ?_
            refine ks_icmp_neN (tgt := 291) (by decide) (by decide) dX16_reckon_284 (by decide) rfl (fun h => absurd h (by decide)) (fun _ => ?_)
            refine ks_iconst (x := nI 1) dX16_reckon_287 (by decide) rfl ?_
            refine ks_goto (tgt := 292) dX16_reckon_288 (by decide) ?_
            refine ks_callV (n := 1) (M' := mX16_pushTruth) (c_rs_pushTruth (d := d + 1) o3 Q3 (b := true)) o3 cl_X16 rfl kx_2200 kx_2202 kxp_95 kx_30 kx_2203 (by decide +kernel) rfl (by decide) (Nat.le_of_ble_eq_true rfl) rfl dX16_reckon_292 rfl (fun zz SS yy => ?_)
            obtain ⟨rfl, V9, F9, m9, hc⟩ := yy
            rcases hc with ⟨ca, cb, cc⟩ | ⟨ca, cb, cc⟩
            · refine ks_goto (tgt := 560) dX16_reckon_295 (by decide) ?_
              refine ks_ret rfl dX16_reckon_560 ?_
              refine ⟨rfl, V9, F9, _, ys, M3.trans m9, cc, Or.inl ⟨cb.trans v743, ?_⟩⟩
              unfold rkS
              rw [if_pos good]
              show some (numI (rk1 145 (numV (xs.getD 0 []))) :: _, _) = _
              rw [← en0]
              rw [show rk1 145 n0 = 1 from if_pos p0]
              rw [show flagL true = numI 1 by decide]
            · rw [ld] at ca
              omega
        · refine ks_tableIn (off := 167) (tgt := 260) dX16_reckon_93 (by decide) (by decide) (by decide) (by decide) ?_
          refine ks_aload_n dX16_reckon_260 rfl rfl ?_
          refine ks_lload_n dX16_reckon_261 rfl rfl ?_
          refine ks_lconst (x := lN 0) dX16_reckon_262 (by decide) rfl ?_
          refine ks_lif_ne (tgt := 271) dX16_reckon_263 rfl dX16_reckon_264 (by decide) rfl (fun hb => ?_) (fun hb => ?_)
          · have p0 : ¬ n0 = 0 := fun h => hb ((iL_eq (a := n0) (b := 0) (by omega) (by omega) (by omega) (by omega)).mpr h)
            refine ks_iconst (x := nI 0) dX16_reckon_271 (by decide) rfl ?_
            refine ks_iload_n dX16_reckon_272 rfl rfl ?_
            refine ks_sipush (x := nI 145) dX16_reckon_273 (by decide) rfl ?_
            refine ks_icmp_neN (tgt := 283) (by decide) (by decide) dX16_reckon_276 (by decide) rfl (fun _ => ?_) (fun h => absurd h (by decide))
            refine ks_iconst (x := nI 0) dX16_reckon_283 (by decide) rfl ?_
            refine ks_icmp_neN (tgt := 291) (by decide) (by decide) dX16_reckon_284 (by decide) rfl (fun h => absurd h (by decide)) (fun _ => ?_)
            refine ks_iconst (x := nI 1) dX16_reckon_287 (by decide) rfl ?_
            refine ks_goto (tgt := 292) dX16_reckon_288 (by decide) ?_
            refine ks_callV (n := 1) (M' := mX16_pushTruth) (c_rs_pushTruth (d := d + 1) o3 Q3 (b := true)) o3 cl_X16 rfl kx_2200 kx_2202 kxp_95 kx_30 kx_2203 (by decide +kernel) rfl (by decide) (Nat.le_of_ble_eq_true rfl) rfl dX16_reckon_292 rfl (fun zz SS yy => ?_)
            obtain ⟨rfl, V9, F9, m9, hc⟩ := yy
            rcases hc with ⟨ca, cb, cc⟩ | ⟨ca, cb, cc⟩
            · refine ks_goto (tgt := 560) dX16_reckon_295 (by decide) ?_
              refine ks_ret rfl dX16_reckon_560 ?_
              refine ⟨rfl, V9, F9, _, ys, M3.trans m9, cc, Or.inl ⟨cb.trans v743, ?_⟩⟩
              unfold rkS
              rw [if_pos good]
              show some (numI (rk1 146 (numV (xs.getD 0 []))) :: _, _) = _
              rw [← en0]
              rw [show rk1 146 n0 = 1 from if_neg p0]
              rw [show flagL true = numI 1 by decide]
            · rw [ld] at ca
              omega
          · have p0 : n0 = 0 := (iL_eq (a := n0) (b := 0) (by omega) (by omega) (by omega) (by omega)).mp hb
            refine ks_iconst (x := nI 1) dX16_reckon_267 (by decide) rfl ?_
            refine ks_goto (tgt := 272) dX16_reckon_268 (by decide) ?_
            refine ks_iload_n dX16_reckon_272 rfl rfl ?_
            refine ks_sipush (x := nI 145) dX16_reckon_273 (by decide) rfl ?_
            refine ks_icmp_neN (tgt := 283) (by decide) (by decide) dX16_reckon_276 (by decide) rfl (fun _ => ?_) (fun h => absurd h (by decide))
            refine ks_iconst (x := nI 0) dX16_reckon_283 (by decide) rfl ?_
            refine ks_icmp_neN (tgt := 291) (by decide) (by decide) dX16_reckon_284 (by decide) rfl (fun _ => ?_) (fun h => absurd h (by decide))
            refine ks_iconst (x := nI 0) dX16_reckon_291 (by decide) rfl ?_
            refine ks_callV (n := 1) (M' := mX16_pushTruth) (c_rs_pushTruth (d := d + 1) o3 Q3 (b := false)) o3 cl_X16 rfl kx_2200 kx_2202 kxp_95 kx_30 kx_2203 (by decide +kernel) rfl (by decide) (Nat.le_of_ble_eq_true rfl) rfl dX16_reckon_292 rfl (fun zz SS yy => ?_)
            obtain ⟨rfl, V9, F9, m9, hc⟩ := yy
            rcases hc with ⟨ca, cb, cc⟩ | ⟨ca, cb, cc⟩
            · refine ks_goto (tgt := 560) dX16_reckon_295 (by decide) ?_
              refine ks_ret rfl dX16_reckon_560 ?_
              refine ⟨rfl, V9, F9, _, ys, M3.trans m9, cc, Or.inl ⟨cb.trans v743, ?_⟩⟩
              unfold rkS
              rw [if_pos good]
              show some (numI (rk1 146 (numV (xs.getD 0 []))) :: _, _) = _
              rw [← en0]
              rw [show rk1 146 n0 = 0 from if_pos p0]
              rw [show flagL false = numI 0 by decide]
            · rw [ld] at ca
              omega
        · refine ks_tableIn (off := 205) (tgt := 298) dX16_reckon_93 (by decide) (by decide) (by decide) (by decide) ?_
          exact absurd etk (by decide)
        · refine ks_tableIn (off := 216) (tgt := 309) dX16_reckon_93 (by decide) (by decide) (by decide) (by decide) ?_
          exact absurd etk (by decide)
        · refine ks_tableIn (off := 443) (tgt := 536) dX16_reckon_93 (by decide) (by decide) (by decide) (by decide) ?_
          omega
        · refine ks_tableIn (off := 443) (tgt := 536) dX16_reckon_93 (by decide) (by decide) (by decide) (by decide) ?_
          omega
        · refine ks_tableIn (off := 443) (tgt := 536) dX16_reckon_93 (by decide) (by decide) (by decide) (by decide) ?_
          omega
        · refine ks_tableIn (off := 443) (tgt := 536) dX16_reckon_93 (by decide) (by decide) (by decide) (by decide) ?_
          omega
        · refine ks_tableIn (off := 443) (tgt := 536) dX16_reckon_93 (by decide) (by decide) (by decide) (by decide) ?_
          omega
        · refine ks_tableIn (off := 227) (tgt := 320) dX16_reckon_93 (by decide) (by decide) (by decide) (by decide) ?_
          exact absurd etk (by decide)
        · refine ks_tableIn (off := 252) (tgt := 345) dX16_reckon_93 (by decide) (by decide) (by decide) (by decide) ?_
          exact absurd etk (by decide)
        · refine ks_tableIn (off := 277) (tgt := 370) dX16_reckon_93 (by decide) (by decide) (by decide) (by decide) ?_
          exact absurd etk (by decide)
        · refine ks_tableIn (off := 277) (tgt := 370) dX16_reckon_93 (by decide) (by decide) (by decide) (by decide) ?_
          exact absurd etk (by decide)
        · refine ks_tableIn (off := 308) (tgt := 401) dX16_reckon_93 (by decide) (by decide) (by decide) (by decide) ?_
          exact absurd etk (by decide)
        · refine ks_tableIn (off := 327) (tgt := 420) dX16_reckon_93 (by decide) (by decide) (by decide) (by decide) ?_
          exact absurd etk (by decide)
        · refine ks_tableIn (off := 346) (tgt := 439) dX16_reckon_93 (by decide) (by decide) (by decide) (by decide) ?_
          exact absurd etk (by decide)
        · refine ks_tableIn (off := 365) (tgt := 458) dX16_reckon_93 (by decide) (by decide) (by decide) (by decide) ?_
          exact absurd etk (by decide)
        · refine ks_tableIn (off := 384) (tgt := 477) dX16_reckon_93 (by decide) (by decide) (by decide) (by decide) ?_
          exact absurd etk (by decide)
        · refine ks_tableIn (off := 403) (tgt := 496) dX16_reckon_93 (by decide) (by decide) (by decide) (by decide) ?_
          exact absurd etk (by decide)
        · refine ks_tableIn (off := 423) (tgt := 516) dX16_reckon_93 (by decide) (by decide) (by decide) (by decide) ?_
          exact absurd etk (by decide)
        · refine ks_tableOut (tgt := 536) dX16_reckon_93 ((show ∀ q, q < 256 → (q < 139 ∨ 164 < q) → ((nI q).toInt < 139 ∨ 164 < (nI q).toInt) by decide +kernel) _ hop hsw) (by decide) ?_
          exact absurd etk (by unfold tkO; rw [if_neg (by omega), if_pos (by omega)]; decide)
      · exact absurd hf (by decide)
    · have e0 := j0 c0
      obtain rfl := e0.symm
      rw [if_neg c0]
      obtain ⟨f0, q0⟩ := msK.fail hO hK
      have why0 : ¬ okN xs 0 := fun h => c0 h.2
      refine ks_lstore_n dX16_reckon_39 (by decide) rfl ?_
      refine ks_sub [(3, _), (0, _), (1, _), (2, _)] rfl ?_
      refine ks_iload_n dX16_reckon_40 rfl rfl ?_
      refine ks_iconst (x := nI 1) dX16_reckon_41 (by decide) rfl ?_
      refine ks_icmp_leN (tgt := 54) (by decide) (by decide) dX16_reckon_42 (by decide) rfl (fun _ => ?_) (fun h => absurd h (by decide))
      refine ks_lconst (x := lN 0) dX16_reckon_54 (by decide) rfl ?_
      refine ks_lstore dX16_reckon_55 (by decide) rfl ?_
      refine ks_sub [(5, _), (0, _), (1, _), (2, _), (3, _)] rfl ?_
      refine ks_iload_n dX16_reckon_57 rfl rfl ?_
      refine ks_iconst (x := nI 2) dX16_reckon_58 (by decide) rfl ?_
      refine ks_icmp_leN (tgt := 71) (by decide) (by decide) dX16_reckon_59 (by decide) rfl (fun _ => ?_) (fun h => absurd h (by decide))
      refine ks_lconst (x := lN 0) dX16_reckon_71 (by decide) rfl ?_
      refine ks_lstore dX16_reckon_72 (by decide) rfl ?_
      refine ks_sub [(7, _), (0, _), (1, _), (2, _), (3, _), (5, _)] rfl ?_
      refine ks_aload_n dX16_reckon_74 rfl rfl ?_
      refine ks_getf (T := TX16) (kf := 74) kx_2442 rfl in_X16 cl_X16 (by decide) f0.2.1 rfl dX16_reckon_75 rfl ?_
      refine ks_tv (va_up_self _ _ _) ?_
      refine ks_if_eqZ (tgt := 82) dX16_reckon_78 (by decide) rfl (fun hf => ?_) (fun hf => ?_)
      · exact absurd hf (by decide)
      · refine ks_ret rfl dX16_reckon_81 ?_
        exact ⟨rfl, (va_up V 74 (.int (ks_bo true))), F, xs, ys, f0, q0, Or.inr ⟨va_up_self _ _ _, fun q hq => by rw [rk_none (i := 0) (by rw [etk]; decide) why0] at hq; cases hq⟩⟩
  have from2 : tkO op = 2 → 2 ≤ xs.length → ks_X l G mX16_reckon (d + 5) 33 [(0, .ref 290), (1, .int (nI op)), (2, .int (nI 2))] [] S (fun z S' => z = none ∧ opR S S' V F (rkS op xs ys) vs) := by
    intro etk hn
    refine ks_aload_n dX16_reckon_33 rfl rfl ?_
    refine ks_iconst (x := nI 0) dX16_reckon_34 (by decide) rfl ?_
    refine ks_iconst (x := nI 4) dX16_reckon_35 (by decide) rfl ?_
    refine ks_callV (n := 2) (M' := mX16_numberAt) (c_rs_numberAt (d := d + 4) hO hK (k := 0) (mo := 4) (by omega) (by decide)) hO cl_X16 rfl kx_2196 kx_2198 kxp_94 kx_30 kx_2199 (by decide +kernel) rfl (by decide) (Nat.le_of_ble_eq_true rfl) rfl dX16_reckon_36 rfl (fun z0 S0 y0 => ?_)
    obtain ⟨rfl, k0, j0⟩ := y0
    by_cases c0 : (xs.getD 0 []).length ≤ 4
    · have e0 := k0 c0
      obtain rfl := e0.symm
      rw [if_pos c0]
      have nb0 := numV_b4 c0 (by obtain ⟨_, _, _, _, h9, _⟩ := hK; exact rsK_b h9 (by omega))
      obtain ⟨n0, en0⟩ : ∃ n, n = numV (xs.getD 0 []) := ⟨_, rfl⟩
      rw [← en0] at nb0 ⊢
      refine ks_lstore_n dX16_reckon_39 (by decide) rfl ?_
      refine ks_sub [(3, _), (0, _), (1, _), (2, _)] rfl ?_
      refine ks_iload_n dX16_reckon_40 rfl rfl ?_
      refine ks_iconst (x := nI 1) dX16_reckon_41 (by decide) rfl ?_
      refine ks_icmp_leN (tgt := 54) (by decide) (by decide) dX16_reckon_42 (by decide) rfl (fun h => absurd h (by decide)) (fun _ => ?_)
      refine ks_aload_n dX16_reckon_45 rfl rfl ?_
      refine ks_iconst (x := nI 1) dX16_reckon_46 (by decide) rfl ?_
      refine ks_iconst (x := nI 4) dX16_reckon_47 (by decide) rfl ?_
      refine ks_callV (n := 2) (M' := mX16_numberAt) (c_rs_numberAt (d := d + 4) hO hK (k := 1) (mo := 4) (by omega) (by decide)) hO cl_X16 rfl kx_2196 kx_2198 kxp_94 kx_30 kx_2199 (by decide +kernel) rfl (by decide) (Nat.le_of_ble_eq_true rfl) rfl dX16_reckon_48 rfl (fun z1 S1 y1 => ?_)
      obtain ⟨rfl, k1, j1⟩ := y1
      by_cases c1 : (xs.getD 1 []).length ≤ 4
      · have e1 := k1 c1
        obtain rfl := e1.symm
        rw [if_pos c1]
        have nb1 := numV_b4 c1 (by obtain ⟨_, _, _, _, h9, _⟩ := hK; exact rsK_b h9 (by omega))
        obtain ⟨n1, en1⟩ : ∃ n, n = numV (xs.getD 1 []) := ⟨_, rfl⟩
        rw [← en1] at nb1 ⊢
        refine ks_goto (tgt := 55) dX16_reckon_51 (by decide) ?_
        refine ks_lstore dX16_reckon_55 (by decide) rfl ?_
        refine ks_sub [(5, _), (0, _), (1, _), (2, _), (3, _)] rfl ?_
        refine ks_iload_n dX16_reckon_57 rfl rfl ?_
        refine ks_iconst (x := nI 2) dX16_reckon_58 (by decide) rfl ?_
        refine ks_icmp_leN (tgt := 71) (by decide) (by decide) dX16_reckon_59 (by decide) rfl (fun _ => ?_) (fun h => absurd h (by decide))
        refine ks_lconst (x := lN 0) dX16_reckon_71 (by decide) rfl ?_
        refine ks_lstore dX16_reckon_72 (by decide) rfl ?_
        refine ks_sub [(7, _), (0, _), (1, _), (2, _), (3, _), (5, _)] rfl ?_
        refine ks_aload_n dX16_reckon_74 rfl rfl ?_
        refine ks_getf (T := TX16) (kf := 74) kx_2442 rfl in_X16 cl_X16 (by decide) hO rfl dX16_reckon_75 rfl ?_
        refine ks_tv v74 ?_
        refine ks_if_eqZ (tgt := 82) dX16_reckon_78 (by decide) rfl (fun hf => ?_) (fun hf => ?_)
        · have good : ∀ i, i < tkO op → okN xs i := fun i hi => by
            rw [etk] at hi
            have h9 : i = 0 ∨ i = 1 := by omega
            rcases h9 with rfl | rfl
            · exact ⟨by omega, c0⟩
            · exact ⟨by omega, c1⟩
          obtain ⟨Q3, M3⟩ := rsQ.pop (k := 2) hO hK
          have v743 : (va_up V 67 (.int (nI (xs.length - 2)))) 74 = .int (ks_bo false) := (va_up_ne _ _ (by decide)).trans v74
          have ld : (xs.drop 2).length = xs.length - 2 := List.length_drop
          refine ks_aload_n dX16_reckon_82 rfl rfl ?_
          refine ks_dup dX16_reckon_83 rfl rfl ?_
          refine ks_getf (T := TX16) (kf := 67) kx_2435 rfl in_X16 cl_X16 (by decide) hO rfl dX16_reckon_84 rfl ?_
          refine ks_tv v67 ?_
          refine ks_iload_n dX16_reckon_87 rfl rfl ?_
          refine ks_subN (by omega) dX16_reckon_88 rfl ?_
          refine ks_putf (T := TX16) (kf := 67) kx_2435 rfl in_X16 tyX16_ok nmX16 cl_X16 (by decide) hO (Nat.le_of_ble_eq_true rfl) rfl rfl rfl rfl dX16_reckon_89 rfl ?_
          refine md_put mdp_67 ?_
          have o3 : (ks_set S 290 (rfE (va_up V 67 (.int (nI (xs.length - 2)))))).2.2 290 = some (rfE (va_up V 67 (.int (nI (xs.length - 2))))) := ks_set_same _ _ _
          refine ks_iload_n dX16_reckon_92 rfl rfl ?_
          have hsw : op = 139 ∨ op = 140 ∨ op = 141 ∨ op = 142 ∨ op = 143 ∨ op = 144 ∨ op = 145 ∨ op = 146 ∨ op = 147 ∨ op = 148 ∨ op = 149 ∨ op = 150 ∨ op = 151 ∨ op = 152 ∨ op = 153 ∨ op = 154 ∨ op = 155 ∨ op = 156 ∨ op = 157 ∨ op = 158 ∨ op = 159 ∨ op = 160 ∨ op = 161 ∨ op = 162 ∨ op = 163 ∨ op = 164 ∨ ((op < 139 ∨ 164 < op)) := by omega
          rcases hsw with rfl | rfl | rfl | rfl | rfl | rfl | rfl | rfl | rfl | rfl | rfl | rfl | rfl | rfl | rfl | rfl | rfl | rfl | rfl | rfl | rfl | rfl | rfl | rfl | rfl | rfl | hsw
          · refine ks_tableIn (off := 119) (tgt := 212) dX16_reckon_93 (by decide) (by decide) (by decide) (by decide) ?_
            exact absurd etk (by decide)
          · refine ks_tableIn (off := 129) (tgt := 222) dX16_reckon_93 (by decide) (by decide) (by decide) (by decide) ?_
            exact absurd etk (by decide)
          · refine ks_tableIn (off := 443) (tgt := 536) dX16_reckon_93 (by decide) (by decide) (by decide) (by decide) ?_
            omega
          · refine ks_tableIn (off := 443) (tgt := 536) dX16_reckon_93 (by decide) (by decide) (by decide) (by decide) ?_
            omega
          · refine ks_tableIn (off := 139) (tgt := 232) dX16_reckon_93 (by decide) (by decide) (by decide) (by decide) ?_
            exact absurd etk (by decide)
          · refine ks_tableIn (off := 148) (tgt := 241) dX16_reckon_93 (by decide) (by decide) (by decide) (by decide) ?_
            exact absurd etk (by decide)
          · refine ks_tableIn (off := 167) (tgt := 260) dX16_reckon_93 (by decide) (by decide) (by decide) (by decide) ?_
            exact absurd etk (by decide)
          · refine ks_tableIn (off := 167) (tgt := 260) dX16_reckon_93 (by decide) (by decide) (by decide) (by decide) ?_
            exact absurd etk (by decide)
          · refine ks_tableIn (off := 205) (tgt := 298) dX16_reckon_93 (by decide) (by decide) (by decide) (by decide) ?_
            refine ks_aload_n dX16_reckon_298 rfl rfl ?_
            refine ks_lload dX16_reckon_299 rfl rfl ?_
            refine ks_lload_n dX16_reckon_301 rfl rfl ?_
            refine ks_ladd dX16_reckon_302 rfl ?_
            refine ks_tl (y := iL (n1 + n0)) (iL_add _ _) ?_
            refine ks_callV (n := 1) (M' := mX16_pushNumber) (c_rs_pushNumber (d := d + 2) o3 Q3 (v := (n1 + n0)) (by omega)) o3 cl_X16 rfl kx_2184 kx_2186 kxp_91 kx_30 kx_2187 (by decide +kernel) rfl (by decide) (Nat.le_of_ble_eq_true rfl) rfl dX16_reckon_303 rfl (fun zz SS yy => ?_)
            obtain ⟨rfl, V9, F9, m9, hc⟩ := yy
            rcases hc with ⟨ca, cb, cc⟩ | ⟨ca, cb, cc⟩
            · refine ks_goto (tgt := 560) dX16_reckon_306 (by decide) ?_
              refine ks_ret rfl dX16_reckon_560 ?_
              refine ⟨rfl, V9, F9, _, ys, M3.trans m9, cc, Or.inl ⟨cb.trans v743, ?_⟩⟩
              unfold rkS
              rw [if_pos good]
              show some (numI (rk2 147 (numV (xs.getD 1 [])) (numV (xs.getD 0 []))) :: _, _) = _
              rw [← en0, ← en1]
              rfl
            · rw [ld] at ca
              omega
          · refine ks_tableIn (off := 216) (tgt := 309) dX16_reckon_93 (by decide) (by decide) (by decide) (by decide) ?_
            refine ks_aload_n dX16_reckon_309 rfl rfl ?_
            refine ks_lload dX16_reckon_310 rfl rfl ?_
            refine ks_lload_n dX16_reckon_312 rfl rfl ?_
            refine ks_lsub dX16_reckon_313 rfl ?_
            refine ks_tl (y := iL (n1 - n0)) (iL_sub _ _) ?_
            refine ks_callV (n := 1) (M' := mX16_pushNumber) (c_rs_pushNumber (d := d + 2) o3 Q3 (v := (n1 - n0)) (by omega)) o3 cl_X16 rfl kx_2184 kx_2186 kxp_91 kx_30 kx_2187 (by decide +kernel) rfl (by decide) (Nat.le_of_ble_eq_true rfl) rfl dX16_reckon_314 rfl (fun zz SS yy => ?_)
            obtain ⟨rfl, V9, F9, m9, hc⟩ := yy
            rcases hc with ⟨ca, cb, cc⟩ | ⟨ca, cb, cc⟩
            · refine ks_goto (tgt := 560) dX16_reckon_317 (by decide) ?_
              refine ks_ret rfl dX16_reckon_560 ?_
              refine ⟨rfl, V9, F9, _, ys, M3.trans m9, cc, Or.inl ⟨cb.trans v743, ?_⟩⟩
              unfold rkS
              rw [if_pos good]
              show some (numI (rk2 148 (numV (xs.getD 1 [])) (numV (xs.getD 0 []))) :: _, _) = _
              rw [← en0, ← en1]
              rfl
            · rw [ld] at ca
              omega
          · refine ks_tableIn (off := 443) (tgt := 536) dX16_reckon_93 (by decide) (by decide) (by decide) (by decide) ?_
            omega
          · refine ks_tableIn (off := 443) (tgt := 536) dX16_reckon_93 (by decide) (by decide) (by decide) (by decide) ?_
            omega
          · refine ks_tableIn (off := 443) (tgt := 536) dX16_reckon_93 (by decide) (by decide) (by decide) (by decide) ?_
            omega
          · refine ks_tableIn (off := 443) (tgt := 536) dX16_reckon_93 (by decide) (by decide) (by decide) (by decide) ?_
            omega
          · refine ks_tableIn (off := 443) (tgt := 536) dX16_reckon_93 (by decide) (by decide) (by decide) (by decide) ?_
            omega
          · refine ks_tableIn (off := 227) (tgt := 320) dX16_reckon_93 (by decide) (by decide) (by decide) (by decide) ?_
            refine ks_aload_n dX16_reckon_320 rfl rfl ?_
            refine ks_lload dX16_reckon_321 rfl rfl ?_
            refine ks_lconst (x := lN 0) dX16_reckon_323 (by decide) rfl ?_
            refine ks_lif_eq (tgt := 338) dX16_reckon_324 rfl dX16_reckon_325 (by decide) rfl (fun hb324 => ?_) (fun hb324 => ?_)
            · refine ks_iconst (x := nI 0) dX16_reckon_338 (by decide) rfl ?_
              have q1 := iL_lt (a := n1) (b := n0) (by omega) (by omega) (by omega) (by omega)
              have q2 := iL_lt (a := n0) (b := n1) (by omega) (by omega) (by omega) (by omega)
              have q3 := iL_eq (a := n1) (b := n0) (by omega) (by omega) (by omega) (by omega)
              have q4 := iL_eq (a := n1) (b := 0) (by omega) (by omega) (by omega) (by omega)
              have q5 := iL_eq (a := n0) (b := 0) (by omega) (by omega) (by omega) (by omega)
              have q6 := iL_le (a := n1) (b := n0) (by omega) (by omega) (by omega) (by omega)
              have q7 := iL_le (a := n0) (b := n1) (by omega) (by omega) (by omega) (by omega)
              refine ks_callV (n := 1) (M' := mX16_pushTruth) (c_rs_pushTruth (d := d + 1) o3 Q3 (b := false)) o3 cl_X16 rfl kx_2200 kx_2202 kxp_95 kx_30 kx_2203 (by decide +kernel) rfl (by decide) (Nat.le_of_ble_eq_true rfl) rfl dX16_reckon_339 rfl (fun zz SS yy => ?_)
              obtain ⟨rfl, V9, F9, m9, hc⟩ := yy
              rcases hc with ⟨ca, cb, cc⟩ | ⟨ca, cb, cc⟩
              · refine ks_goto (tgt := 560) dX16_reckon_342 (by decide) ?_
                refine ks_ret rfl dX16_reckon_560 ?_
                refine ⟨rfl, V9, F9, _, ys, M3.trans m9, cc, Or.inl ⟨cb.trans v743, ?_⟩⟩
                unfold rkS
                rw [if_pos good]
                show some (flagL (rkH 154 (numV (xs.getD 1 [])) (numV (xs.getD 0 []))) :: _, _) = _
                rw [← en0, ← en1]
                rw [show rkH 154 n1 n0 = false from decide_eq_false (by simp only [iL_zero, q1, q2, q3, q4, q5, q6, q7] at *; omega)]
              · rw [ld] at ca
                omega
            · refine ks_lload_n dX16_reckon_328 rfl rfl ?_
              refine ks_lconst (x := lN 0) dX16_reckon_329 (by decide) rfl ?_
              refine ks_lif_eq (tgt := 338) dX16_reckon_330 rfl dX16_reckon_331 (by decide) rfl (fun hb330 => ?_) (fun hb330 => ?_)
              · refine ks_iconst (x := nI 0) dX16_reckon_338 (by decide) rfl ?_
                have q1 := iL_lt (a := n1) (b := n0) (by omega) (by omega) (by omega) (by omega)
                have q2 := iL_lt (a := n0) (b := n1) (by omega) (by omega) (by omega) (by omega)
                have q3 := iL_eq (a := n1) (b := n0) (by omega) (by omega) (by omega) (by omega)
                have q4 := iL_eq (a := n1) (b := 0) (by omega) (by omega) (by omega) (by omega)
                have q5 := iL_eq (a := n0) (b := 0) (by omega) (by omega) (by omega) (by omega)
                have q6 := iL_le (a := n1) (b := n0) (by omega) (by omega) (by omega) (by omega)
                have q7 := iL_le (a := n0) (b := n1) (by omega) (by omega) (by omega) (by omega)
                refine ks_callV (n := 1) (M' := mX16_pushTruth) (c_rs_pushTruth (d := d + 1) o3 Q3 (b := false)) o3 cl_X16 rfl kx_2200 kx_2202 kxp_95 kx_30 kx_2203 (by decide +kernel) rfl (by decide) (Nat.le_of_ble_eq_true rfl) rfl dX16_reckon_339 rfl (fun zz SS yy => ?_)
                obtain ⟨rfl, V9, F9, m9, hc⟩ := yy
                rcases hc with ⟨ca, cb, cc⟩ | ⟨ca, cb, cc⟩
                · refine ks_goto (tgt := 560) dX16_reckon_342 (by decide) ?_
                  refine ks_ret rfl dX16_reckon_560 ?_
                  refine ⟨rfl, V9, F9, _, ys, M3.trans m9, cc, Or.inl ⟨cb.trans v743, ?_⟩⟩
                  unfold rkS
                  rw [if_pos good]
                  show some (flagL (rkH 154 (numV (xs.getD 1 [])) (numV (xs.getD 0 []))) :: _, _) = _
                  rw [← en0, ← en1]
                  rw [show rkH 154 n1 n0 = false from decide_eq_false (by simp only [iL_zero, q1, q2, q3, q4, q5, q6, q7] at *; omega)]
                · rw [ld] at ca
                  omega
              · refine ks_iconst (x := nI 1) dX16_reckon_334 (by decide) rfl ?_
                refine ks_goto (tgt := 339) dX16_reckon_335 (by decide) ?_
                have q1 := iL_lt (a := n1) (b := n0) (by omega) (by omega) (by omega) (by omega)
                have q2 := iL_lt (a := n0) (b := n1) (by omega) (by omega) (by omega) (by omega)
                have q3 := iL_eq (a := n1) (b := n0) (by omega) (by omega) (by omega) (by omega)
                have q4 := iL_eq (a := n1) (b := 0) (by omega) (by omega) (by omega) (by omega)
                have q5 := iL_eq (a := n0) (b := 0) (by omega) (by omega) (by omega) (by omega)
                have q6 := iL_le (a := n1) (b := n0) (by omega) (by omega) (by omega) (by omega)
                have q7 := iL_le (a := n0) (b := n1) (by omega) (by omega) (by omega) (by omega)
                refine ks_callV (n := 1) (M' := mX16_pushTruth) (c_rs_pushTruth (d := d + 1) o3 Q3 (b := true)) o3 cl_X16 rfl kx_2200 kx_2202 kxp_95 kx_30 kx_2203 (by decide +kernel) rfl (by decide) (Nat.le_of_ble_eq_true rfl) rfl dX16_reckon_339 rfl (fun zz SS yy => ?_)
                obtain ⟨rfl, V9, F9, m9, hc⟩ := yy
                rcases hc with ⟨ca, cb, cc⟩ | ⟨ca, cb, cc⟩
                · refine ks_goto (tgt := 560) dX16_reckon_342 (by decide) ?_
                  refine ks_ret rfl dX16_reckon_560 ?_
                  refine ⟨rfl, V9, F9, _, ys, M3.trans m9, cc, Or.inl ⟨cb.trans v743, ?_⟩⟩
                  unfold rkS
                  rw [if_pos good]
                  show some (flagL (rkH 154 (numV (xs.getD 1 [])) (numV (xs.getD 0 []))) :: _, _) = _
                  rw [← en0, ← en1]
                  rw [show rkH 154 n1 n0 = true from decide_eq_true (by simp only [iL_zero, q1, q2, q3, q4, q5, q6, q7] at *; omega)]
                · rw [ld] at ca
                  omega
          · refine ks_tableIn (off := 252) (tgt := 345) dX16_reckon_93 (by decide) (by decide) (by decide) (by decide) ?_
            refine ks_aload_n dX16_reckon_345 rfl rfl ?_
            refine ks_lload dX16_reckon_346 rfl rfl ?_
            refine ks_lconst (x := lN 0) dX16_reckon_348 (by decide) rfl ?_
            refine ks_lif_ne (tgt := 359) dX16_reckon_349 rfl dX16_reckon_350 (by decide) rfl (fun hb349 => ?_) (fun hb349 => ?_)
            · refine ks_iconst (x := nI 1) dX16_reckon_359 (by decide) rfl ?_
              refine ks_goto (tgt := 364) dX16_reckon_360 (by decide) ?_
              have q1 := iL_lt (a := n1) (b := n0) (by omega) (by omega) (by omega) (by omega)
              have q2 := iL_lt (a := n0) (b := n1) (by omega) (by omega) (by omega) (by omega)
              have q3 := iL_eq (a := n1) (b := n0) (by omega) (by omega) (by omega) (by omega)
              have q4 := iL_eq (a := n1) (b := 0) (by omega) (by omega) (by omega) (by omega)
              have q5 := iL_eq (a := n0) (b := 0) (by omega) (by omega) (by omega) (by omega)
              have q6 := iL_le (a := n1) (b := n0) (by omega) (by omega) (by omega) (by omega)
              have q7 := iL_le (a := n0) (b := n1) (by omega) (by omega) (by omega) (by omega)
              refine ks_callV (n := 1) (M' := mX16_pushTruth) (c_rs_pushTruth (d := d + 1) o3 Q3 (b := true)) o3 cl_X16 rfl kx_2200 kx_2202 kxp_95 kx_30 kx_2203 (by decide +kernel) rfl (by decide) (Nat.le_of_ble_eq_true rfl) rfl dX16_reckon_364 rfl (fun zz SS yy => ?_)
              obtain ⟨rfl, V9, F9, m9, hc⟩ := yy
              rcases hc with ⟨ca, cb, cc⟩ | ⟨ca, cb, cc⟩
              · refine ks_goto (tgt := 560) dX16_reckon_367 (by decide) ?_
                refine ks_ret rfl dX16_reckon_560 ?_
                refine ⟨rfl, V9, F9, _, ys, M3.trans m9, cc, Or.inl ⟨cb.trans v743, ?_⟩⟩
                unfold rkS
                rw [if_pos good]
                show some (flagL (rkH 155 (numV (xs.getD 1 [])) (numV (xs.getD 0 []))) :: _, _) = _
                rw [← en0, ← en1]
                rw [show rkH 155 n1 n0 = true from decide_eq_true (by simp only [iL_zero, q1, q2, q3, q4, q5, q6, q7] at *; omega)]
              · rw [ld] at ca
                omega
            · refine ks_lload_n dX16_reckon_353 rfl rfl ?_
              refine ks_lconst (x := lN 0) dX16_reckon_354 (by decide) rfl ?_
              refine ks_lif_eq (tgt := 363) dX16_reckon_355 rfl dX16_reckon_356 (by decide) rfl (fun hb355 => ?_) (fun hb355 => ?_)
              · refine ks_iconst (x := nI 0) dX16_reckon_363 (by decide) rfl ?_
                have q1 := iL_lt (a := n1) (b := n0) (by omega) (by omega) (by omega) (by omega)
                have q2 := iL_lt (a := n0) (b := n1) (by omega) (by omega) (by omega) (by omega)
                have q3 := iL_eq (a := n1) (b := n0) (by omega) (by omega) (by omega) (by omega)
                have q4 := iL_eq (a := n1) (b := 0) (by omega) (by omega) (by omega) (by omega)
                have q5 := iL_eq (a := n0) (b := 0) (by omega) (by omega) (by omega) (by omega)
                have q6 := iL_le (a := n1) (b := n0) (by omega) (by omega) (by omega) (by omega)
                have q7 := iL_le (a := n0) (b := n1) (by omega) (by omega) (by omega) (by omega)
                refine ks_callV (n := 1) (M' := mX16_pushTruth) (c_rs_pushTruth (d := d + 1) o3 Q3 (b := false)) o3 cl_X16 rfl kx_2200 kx_2202 kxp_95 kx_30 kx_2203 (by decide +kernel) rfl (by decide) (Nat.le_of_ble_eq_true rfl) rfl dX16_reckon_364 rfl (fun zz SS yy => ?_)
                obtain ⟨rfl, V9, F9, m9, hc⟩ := yy
                rcases hc with ⟨ca, cb, cc⟩ | ⟨ca, cb, cc⟩
                · refine ks_goto (tgt := 560) dX16_reckon_367 (by decide) ?_
                  refine ks_ret rfl dX16_reckon_560 ?_
                  refine ⟨rfl, V9, F9, _, ys, M3.trans m9, cc, Or.inl ⟨cb.trans v743, ?_⟩⟩
                  unfold rkS
                  rw [if_pos good]
                  show some (flagL (rkH 155 (numV (xs.getD 1 [])) (numV (xs.getD 0 []))) :: _, _) = _
                  rw [← en0, ← en1]
                  rw [show rkH 155 n1 n0 = false from decide_eq_false (by simp only [iL_zero, q1, q2, q3, q4, q5, q6, q7] at *; omega)]
                · rw [ld] at ca
                  omega
              · refine ks_iconst (x := nI 1) dX16_reckon_359 (by decide) rfl ?_
                refine ks_goto (tgt := 364) dX16_reckon_360 (by decide) ?_
                have q1 := iL_lt (a := n1) (b := n0) (by omega) (by omega) (by omega) (by omega)
                have q2 := iL_lt (a := n0) (b := n1) (by omega) (by omega) (by omega) (by omega)
                have q3 := iL_eq (a := n1) (b := n0) (by omega) (by omega) (by omega) (by omega)
                have q4 := iL_eq (a := n1) (b := 0) (by omega) (by omega) (by omega) (by omega)
                have q5 := iL_eq (a := n0) (b := 0) (by omega) (by omega) (by omega) (by omega)
                have q6 := iL_le (a := n1) (b := n0) (by omega) (by omega) (by omega) (by omega)
                have q7 := iL_le (a := n0) (b := n1) (by omega) (by omega) (by omega) (by omega)
                refine ks_callV (n := 1) (M' := mX16_pushTruth) (c_rs_pushTruth (d := d + 1) o3 Q3 (b := true)) o3 cl_X16 rfl kx_2200 kx_2202 kxp_95 kx_30 kx_2203 (by decide +kernel) rfl (by decide) (Nat.le_of_ble_eq_true rfl) rfl dX16_reckon_364 rfl (fun zz SS yy => ?_)
                obtain ⟨rfl, V9, F9, m9, hc⟩ := yy
                rcases hc with ⟨ca, cb, cc⟩ | ⟨ca, cb, cc⟩
                · refine ks_goto (tgt := 560) dX16_reckon_367 (by decide) ?_
                  refine ks_ret rfl dX16_reckon_560 ?_
                  refine ⟨rfl, V9, F9, _, ys, M3.trans m9, cc, Or.inl ⟨cb.trans v743, ?_⟩⟩
                  unfold rkS
                  rw [if_pos good]
                  show some (flagL (rkH 155 (numV (xs.getD 1 [])) (numV (xs.getD 0 []))) :: _, _) = _
                  rw [← en0, ← en1]
                  rw [show rkH 155 n1 n0 = true from decide_eq_true (by simp only [iL_zero, q1, q2, q3, q4, q5, q6, q7] at *; omega)]
                · rw [ld] at ca
                  omega
          · refine ks_tableIn (off := 277) (tgt := 370) dX16_reckon_93 (by decide) (by decide) (by decide) (by decide) ?_
            refine ks_aload_n dX16_reckon_370 rfl rfl ?_
            refine ks_lload dX16_reckon_371 rfl rfl ?_
            refine ks_lload_n dX16_reckon_373 rfl rfl ?_
            refine ks_lif_ne (tgt := 382) dX16_reckon_374 rfl dX16_reckon_375 (by decide) rfl (fun hb => ?_) (fun hb => ?_)
            · have p0 : ¬ n1 = n0 := fun h => hb ((iL_eq (a := n1) (b := n0) (by omega) (by omega) (by omega) (by omega)).mpr h)
              refine ks_iconst (x := nI 0) dX16_reckon_382 (by decide) rfl ?_
              refine ks_iload_n dX16_reckon_383 rfl rfl ?_
              refine ks_sipush (x := nI 157) dX16_reckon_384 (by decide) rfl ?_
              refine ks_icmp_neN (tgt := 394) (by decide) (by decide) dX16_reckon_387 (by decide) rfl (fun _ => ?_) (fun h => absurd h (by decide))
              refine ks_iconst (x := nI 0) dX16_reckon_394 (by decide) rfl ?_
              refine ks_callV (n := 2) (M' := mX16_answer) (c_rs_answer (d := d) o3 Q3 (b := false) (v := false) (by rw [ld]; omega) v743) o3 cl_X16 rfl kx_2204 kx_2206 kxp_96 kx_30 kx_2207 (by decide +kernel) rfl (by decide) (Nat.le_of_ble_eq_true rfl) rfl dX16_reckon_395 rfl (fun zz SS yy => ?_)
              obtain ⟨rfl, V9, F9, xs9, ys9, m9, q9, hr9⟩ := yy
              refine ks_goto (tgt := 560) dX16_reckon_398 (by decide) ?_
              refine ks_ret rfl dX16_reckon_560 ?_
              have er : rkS 156 xs ys = (if false = true then (if false = true then some (xs.drop 2, ys) else none) else some (flagL false :: xs.drop 2, ys)) := by
                unfold rkS
                rw [if_pos good]
                have hh : rkH 156 (numV (xs.getD 1 [])) (numV (xs.getD 0 [])) = false := by rw [← en0, ← en1]; exact decide_eq_false p0
                show some (flagL (rkH 156 _ _) :: _, _) = _; rw [hh]; rfl
              rw [er]
              exact ⟨rfl, V9, F9, xs9, ys9, M3.trans m9, q9, hr9⟩
            · have p0 : n1 = n0 := (iL_eq (a := n1) (b := n0) (by omega) (by omega) (by omega) (by omega)).mp hb
              refine ks_iconst (x := nI 1) dX16_reckon_378 (by decide) rfl ?_
              refine ks_goto (tgt := 383) dX16_reckon_379 (by decide) ?_
              refine ks_iload_n dX16_reckon_383 rfl rfl ?_
              refine ks_sipush (x := nI 157) dX16_reckon_384 (by decide) rfl ?_
              refine ks_icmp_neN (tgt := 394) (by decide) (by decide) dX16_reckon_387 (by decide) rfl (fun _ => ?_) (fun h => absurd h (by decide))
              refine ks_iconst (x := nI 0) dX16_reckon_394 (by decide) rfl ?_
              refine ks_callV (n := 2) (M' := mX16_answer) (c_rs_answer (d := d) o3 Q3 (b := true) (v := false) (by rw [ld]; omega) v743) o3 cl_X16 rfl kx_2204 kx_2206 kxp_96 kx_30 kx_2207 (by decide +kernel) rfl (by decide) (Nat.le_of_ble_eq_true rfl) rfl dX16_reckon_395 rfl (fun zz SS yy => ?_)
              obtain ⟨rfl, V9, F9, xs9, ys9, m9, q9, hr9⟩ := yy
              refine ks_goto (tgt := 560) dX16_reckon_398 (by decide) ?_
              refine ks_ret rfl dX16_reckon_560 ?_
              have er : rkS 156 xs ys = (if false = true then (if true = true then some (xs.drop 2, ys) else none) else some (flagL true :: xs.drop 2, ys)) := by
                unfold rkS
                rw [if_pos good]
                have hh : rkH 156 (numV (xs.getD 1 [])) (numV (xs.getD 0 [])) = true := by rw [← en0, ← en1]; exact decide_eq_true p0
                show some (flagL (rkH 156 _ _) :: _, _) = _; rw [hh]; rfl
              rw [er]
              exact ⟨rfl, V9, F9, xs9, ys9, M3.trans m9, q9, hr9⟩
          · refine ks_tableIn (off := 277) (tgt := 370) dX16_reckon_93 (by decide) (by decide) (by decide) (by decide) ?_
            refine ks_aload_n dX16_reckon_370 rfl rfl ?_
            refine ks_lload dX16_reckon_371 rfl rfl ?_
            refine ks_lload_n dX16_reckon_373 rfl rfl ?_
            refine ks_lif_ne (tgt := 382) dX16_reckon_374 rfl dX16_reckon_375 (by decide) rfl (fun hb => ?_) (fun hb => ?_)
            · have p0 : ¬ n1 = n0 := fun h => hb ((iL_eq (a := n1) (b := n0) (by omega) (by omega) (by omega) (by omega)).mpr h)
              refine ks_iconst (x := nI 0) dX16_reckon_382 (by decide) rfl ?_
              refine ks_iload_n dX16_reckon_383 rfl rfl ?_
              refine ks_sipush (x := nI 157) dX16_reckon_384 (by decide) rfl ?_
              refine ks_icmp_neN (tgt := 394) (by decide) (by decide) dX16_reckon_387 (by decide) rfl (fun h => absurd h (by decide)) (fun _ => ?_)
              refine ks_iconst (x := nI 1) dX16_reckon_390 (by decide) rfl ?_
              refine ks_goto (tgt := 395) dX16_reckon_391 (by decide) ?_
              refine ks_callV (n := 2) (M' := mX16_answer) (c_rs_answer (d := d) o3 Q3 (b := false) (v := true) (by rw [ld]; omega) v743) o3 cl_X16 rfl kx_2204 kx_2206 kxp_96 kx_30 kx_2207 (by decide +kernel) rfl (by decide) (Nat.le_of_ble_eq_true rfl) rfl dX16_reckon_395 rfl (fun zz SS yy => ?_)
              obtain ⟨rfl, V9, F9, xs9, ys9, m9, q9, hr9⟩ := yy
              refine ks_goto (tgt := 560) dX16_reckon_398 (by decide) ?_
              refine ks_ret rfl dX16_reckon_560 ?_
              have er : rkS 157 xs ys = (if true = true then (if false = true then some (xs.drop 2, ys) else none) else some (flagL false :: xs.drop 2, ys)) := by
                unfold rkS
                rw [if_pos good]
                have hh : rkH 157 (numV (xs.getD 1 [])) (numV (xs.getD 0 [])) = false := by rw [← en0, ← en1]; exact decide_eq_false p0
                show (if rkH 157 _ _ then some _ else none) = _; rw [hh]; rfl
              rw [er]
              exact ⟨rfl, V9, F9, xs9, ys9, M3.trans m9, q9, hr9⟩
            · have p0 : n1 = n0 := (iL_eq (a := n1) (b := n0) (by omega) (by omega) (by omega) (by omega)).mp hb
              refine ks_iconst (x := nI 1) dX16_reckon_378 (by decide) rfl ?_
              refine ks_goto (tgt := 383) dX16_reckon_379 (by decide) ?_
              refine ks_iload_n dX16_reckon_383 rfl rfl ?_
              refine ks_sipush (x := nI 157) dX16_reckon_384 (by decide) rfl ?_
              refine ks_icmp_neN (tgt := 394) (by decide) (by decide) dX16_reckon_387 (by decide) rfl (fun h => absurd h (by decide)) (fun _ => ?_)
              refine ks_iconst (x := nI 1) dX16_reckon_390 (by decide) rfl ?_
              refine ks_goto (tgt := 395) dX16_reckon_391 (by decide) ?_
              refine ks_callV (n := 2) (M' := mX16_answer) (c_rs_answer (d := d) o3 Q3 (b := true) (v := true) (by rw [ld]; omega) v743) o3 cl_X16 rfl kx_2204 kx_2206 kxp_96 kx_30 kx_2207 (by decide +kernel) rfl (by decide) (Nat.le_of_ble_eq_true rfl) rfl dX16_reckon_395 rfl (fun zz SS yy => ?_)
              obtain ⟨rfl, V9, F9, xs9, ys9, m9, q9, hr9⟩ := yy
              refine ks_goto (tgt := 560) dX16_reckon_398 (by decide) ?_
              refine ks_ret rfl dX16_reckon_560 ?_
              have er : rkS 157 xs ys = (if true = true then (if true = true then some (xs.drop 2, ys) else none) else some (flagL true :: xs.drop 2, ys)) := by
                unfold rkS
                rw [if_pos good]
                have hh : rkH 157 (numV (xs.getD 1 [])) (numV (xs.getD 0 [])) = true := by rw [← en0, ← en1]; exact decide_eq_true p0
                show (if rkH 157 _ _ then some _ else none) = _; rw [hh]; rfl
              rw [er]
              exact ⟨rfl, V9, F9, xs9, ys9, M3.trans m9, q9, hr9⟩
          · refine ks_tableIn (off := 308) (tgt := 401) dX16_reckon_93 (by decide) (by decide) (by decide) (by decide) ?_
            refine ks_aload_n dX16_reckon_401 rfl rfl ?_
            refine ks_lload dX16_reckon_402 rfl rfl ?_
            refine ks_lload_n dX16_reckon_404 rfl rfl ?_
            refine ks_lif_eq (tgt := 413) dX16_reckon_405 rfl dX16_reckon_406 (by decide) rfl (fun hb405 => ?_) (fun hb405 => ?_)
            · refine ks_iconst (x := nI 0) dX16_reckon_413 (by decide) rfl ?_
              have q1 := iL_lt (a := n1) (b := n0) (by omega) (by omega) (by omega) (by omega)
              have q2 := iL_lt (a := n0) (b := n1) (by omega) (by omega) (by omega) (by omega)
              have q3 := iL_eq (a := n1) (b := n0) (by omega) (by omega) (by omega) (by omega)
              have q4 := iL_eq (a := n1) (b := 0) (by omega) (by omega) (by omega) (by omega)
              have q5 := iL_eq (a := n0) (b := 0) (by omega) (by omega) (by omega) (by omega)
              have q6 := iL_le (a := n1) (b := n0) (by omega) (by omega) (by omega) (by omega)
              have q7 := iL_le (a := n0) (b := n1) (by omega) (by omega) (by omega) (by omega)
              refine ks_callV (n := 1) (M' := mX16_pushTruth) (c_rs_pushTruth (d := d + 1) o3 Q3 (b := false)) o3 cl_X16 rfl kx_2200 kx_2202 kxp_95 kx_30 kx_2203 (by decide +kernel) rfl (by decide) (Nat.le_of_ble_eq_true rfl) rfl dX16_reckon_414 rfl (fun zz SS yy => ?_)
              obtain ⟨rfl, V9, F9, m9, hc⟩ := yy
              rcases hc with ⟨ca, cb, cc⟩ | ⟨ca, cb, cc⟩
              · refine ks_goto (tgt := 560) dX16_reckon_417 (by decide) ?_
                refine ks_ret rfl dX16_reckon_560 ?_
                refine ⟨rfl, V9, F9, _, ys, M3.trans m9, cc, Or.inl ⟨cb.trans v743, ?_⟩⟩
                unfold rkS
                rw [if_pos good]
                show some (flagL (rkH 158 (numV (xs.getD 1 [])) (numV (xs.getD 0 []))) :: _, _) = _
                rw [← en0, ← en1]
                rw [show rkH 158 n1 n0 = false from decide_eq_false (by simp only [iL_zero, q1, q2, q3, q4, q5, q6, q7] at *; omega)]
              · rw [ld] at ca
                omega
            · refine ks_iconst (x := nI 1) dX16_reckon_409 (by decide) rfl ?_
              refine ks_goto (tgt := 414) dX16_reckon_410 (by decide) ?_
              have q1 := iL_lt (a := n1) (b := n0) (by omega) (by omega) (by omega) (by omega)
              have q2 := iL_lt (a := n0) (b := n1) (by omega) (by omega) (by omega) (by omega)
              have q3 := iL_eq (a := n1) (b := n0) (by omega) (by omega) (by omega) (by omega)
              have q4 := iL_eq (a := n1) (b := 0) (by omega) (by omega) (by omega) (by omega)
              have q5 := iL_eq (a := n0) (b := 0) (by omega) (by omega) (by omega) (by omega)
              have q6 := iL_le (a := n1) (b := n0) (by omega) (by omega) (by omega) (by omega)
              have q7 := iL_le (a := n0) (b := n1) (by omega) (by omega) (by omega) (by omega)
              refine ks_callV (n := 1) (M' := mX16_pushTruth) (c_rs_pushTruth (d := d + 1) o3 Q3 (b := true)) o3 cl_X16 rfl kx_2200 kx_2202 kxp_95 kx_30 kx_2203 (by decide +kernel) rfl (by decide) (Nat.le_of_ble_eq_true rfl) rfl dX16_reckon_414 rfl (fun zz SS yy => ?_)
              obtain ⟨rfl, V9, F9, m9, hc⟩ := yy
              rcases hc with ⟨ca, cb, cc⟩ | ⟨ca, cb, cc⟩
              · refine ks_goto (tgt := 560) dX16_reckon_417 (by decide) ?_
                refine ks_ret rfl dX16_reckon_560 ?_
                refine ⟨rfl, V9, F9, _, ys, M3.trans m9, cc, Or.inl ⟨cb.trans v743, ?_⟩⟩
                unfold rkS
                rw [if_pos good]
                show some (flagL (rkH 158 (numV (xs.getD 1 [])) (numV (xs.getD 0 []))) :: _, _) = _
                rw [← en0, ← en1]
                rw [show rkH 158 n1 n0 = true from decide_eq_true (by simp only [iL_zero, q1, q2, q3, q4, q5, q6, q7] at *; omega)]
              · rw [ld] at ca
                omega
          · refine ks_tableIn (off := 327) (tgt := 420) dX16_reckon_93 (by decide) (by decide) (by decide) (by decide) ?_
            refine ks_aload_n dX16_reckon_420 rfl rfl ?_
            refine ks_lload dX16_reckon_421 rfl rfl ?_
            refine ks_lload_n dX16_reckon_423 rfl rfl ?_
            refine ks_lif_ge (tgt := 432) dX16_reckon_424 rfl dX16_reckon_425 (by decide) rfl (fun hb424 => ?_) (fun hb424 => ?_)
            · refine ks_iconst (x := nI 0) dX16_reckon_432 (by decide) rfl ?_
              have q1 := iL_lt (a := n1) (b := n0) (by omega) (by omega) (by omega) (by omega)
              have q2 := iL_lt (a := n0) (b := n1) (by omega) (by omega) (by omega) (by omega)
              have q3 := iL_eq (a := n1) (b := n0) (by omega) (by omega) (by omega) (by omega)
              have q4 := iL_eq (a := n1) (b := 0) (by omega) (by omega) (by omega) (by omega)
              have q5 := iL_eq (a := n0) (b := 0) (by omega) (by omega) (by omega) (by omega)
              have q6 := iL_le (a := n1) (b := n0) (by omega) (by omega) (by omega) (by omega)
              have q7 := iL_le (a := n0) (b := n1) (by omega) (by omega) (by omega) (by omega)
              refine ks_callV (n := 1) (M' := mX16_pushTruth) (c_rs_pushTruth (d := d + 1) o3 Q3 (b := false)) o3 cl_X16 rfl kx_2200 kx_2202 kxp_95 kx_30 kx_2203 (by decide +kernel) rfl (by decide) (Nat.le_of_ble_eq_true rfl) rfl dX16_reckon_433 rfl (fun zz SS yy => ?_)
              obtain ⟨rfl, V9, F9, m9, hc⟩ := yy
              rcases hc with ⟨ca, cb, cc⟩ | ⟨ca, cb, cc⟩
              · refine ks_goto (tgt := 560) dX16_reckon_436 (by decide) ?_
                refine ks_ret rfl dX16_reckon_560 ?_
                refine ⟨rfl, V9, F9, _, ys, M3.trans m9, cc, Or.inl ⟨cb.trans v743, ?_⟩⟩
                unfold rkS
                rw [if_pos good]
                show some (flagL (rkH 159 (numV (xs.getD 1 [])) (numV (xs.getD 0 []))) :: _, _) = _
                rw [← en0, ← en1]
                rw [show rkH 159 n1 n0 = false from decide_eq_false (by simp only [iL_zero, q1, q2, q3, q4, q5, q6, q7] at *; omega)]
              · rw [ld] at ca
                omega
            · refine ks_iconst (x := nI 1) dX16_reckon_428 (by decide) rfl ?_
              refine ks_goto (tgt := 433) dX16_reckon_429 (by decide) ?_
              have q1 := iL_lt (a := n1) (b := n0) (by omega) (by omega) (by omega) (by omega)
              have q2 := iL_lt (a := n0) (b := n1) (by omega) (by omega) (by omega) (by omega)
              have q3 := iL_eq (a := n1) (b := n0) (by omega) (by omega) (by omega) (by omega)
              have q4 := iL_eq (a := n1) (b := 0) (by omega) (by omega) (by omega) (by omega)
              have q5 := iL_eq (a := n0) (b := 0) (by omega) (by omega) (by omega) (by omega)
              have q6 := iL_le (a := n1) (b := n0) (by omega) (by omega) (by omega) (by omega)
              have q7 := iL_le (a := n0) (b := n1) (by omega) (by omega) (by omega) (by omega)
              refine ks_callV (n := 1) (M' := mX16_pushTruth) (c_rs_pushTruth (d := d + 1) o3 Q3 (b := true)) o3 cl_X16 rfl kx_2200 kx_2202 kxp_95 kx_30 kx_2203 (by decide +kernel) rfl (by decide) (Nat.le_of_ble_eq_true rfl) rfl dX16_reckon_433 rfl (fun zz SS yy => ?_)
              obtain ⟨rfl, V9, F9, m9, hc⟩ := yy
              rcases hc with ⟨ca, cb, cc⟩ | ⟨ca, cb, cc⟩
              · refine ks_goto (tgt := 560) dX16_reckon_436 (by decide) ?_
                refine ks_ret rfl dX16_reckon_560 ?_
                refine ⟨rfl, V9, F9, _, ys, M3.trans m9, cc, Or.inl ⟨cb.trans v743, ?_⟩⟩
                unfold rkS
                rw [if_pos good]
                show some (flagL (rkH 159 (numV (xs.getD 1 [])) (numV (xs.getD 0 []))) :: _, _) = _
                rw [← en0, ← en1]
                rw [show rkH 159 n1 n0 = true from decide_eq_true (by simp only [iL_zero, q1, q2, q3, q4, q5, q6, q7] at *; omega)]
              · rw [ld] at ca
                omega
          · refine ks_tableIn (off := 346) (tgt := 439) dX16_reckon_93 (by decide) (by decide) (by decide) (by decide) ?_
            refine ks_aload_n dX16_reckon_439 rfl rfl ?_
            refine ks_lload dX16_reckon_440 rfl rfl ?_
            refine ks_lload_n dX16_reckon_442 rfl rfl ?_
            refine ks_lif_le (tgt := 451) dX16_reckon_443 rfl dX16_reckon_444 (by decide) rfl (fun hb443 => ?_) (fun hb443 => ?_)
            · refine ks_iconst (x := nI 0) dX16_reckon_451 (by decide) rfl ?_
              have q1 := iL_lt (a := n1) (b := n0) (by omega) (by omega) (by omega) (by omega)
              have q2 := iL_lt (a := n0) (b := n1) (by omega) (by omega) (by omega) (by omega)
              have q3 := iL_eq (a := n1) (b := n0) (by omega) (by omega) (by omega) (by omega)
              have q4 := iL_eq (a := n1) (b := 0) (by omega) (by omega) (by omega) (by omega)
              have q5 := iL_eq (a := n0) (b := 0) (by omega) (by omega) (by omega) (by omega)
              have q6 := iL_le (a := n1) (b := n0) (by omega) (by omega) (by omega) (by omega)
              have q7 := iL_le (a := n0) (b := n1) (by omega) (by omega) (by omega) (by omega)
              refine ks_callV (n := 1) (M' := mX16_pushTruth) (c_rs_pushTruth (d := d + 1) o3 Q3 (b := false)) o3 cl_X16 rfl kx_2200 kx_2202 kxp_95 kx_30 kx_2203 (by decide +kernel) rfl (by decide) (Nat.le_of_ble_eq_true rfl) rfl dX16_reckon_452 rfl (fun zz SS yy => ?_)
              obtain ⟨rfl, V9, F9, m9, hc⟩ := yy
              rcases hc with ⟨ca, cb, cc⟩ | ⟨ca, cb, cc⟩
              · refine ks_goto (tgt := 560) dX16_reckon_455 (by decide) ?_
                refine ks_ret rfl dX16_reckon_560 ?_
                refine ⟨rfl, V9, F9, _, ys, M3.trans m9, cc, Or.inl ⟨cb.trans v743, ?_⟩⟩
                unfold rkS
                rw [if_pos good]
                show some (flagL (rkH 160 (numV (xs.getD 1 [])) (numV (xs.getD 0 []))) :: _, _) = _
                rw [← en0, ← en1]
                rw [show rkH 160 n1 n0 = false from decide_eq_false (by simp only [iL_zero, q1, q2, q3, q4, q5, q6, q7] at *; omega)]
              · rw [ld] at ca
                omega
            · refine ks_iconst (x := nI 1) dX16_reckon_447 (by decide) rfl ?_
              refine ks_goto (tgt := 452) dX16_reckon_448 (by decide) ?_
              have q1 := iL_lt (a := n1) (b := n0) (by omega) (by omega) (by omega) (by omega)
              have q2 := iL_lt (a := n0) (b := n1) (by omega) (by omega) (by omega) (by omega)
              have q3 := iL_eq (a := n1) (b := n0) (by omega) (by omega) (by omega) (by omega)
              have q4 := iL_eq (a := n1) (b := 0) (by omega) (by omega) (by omega) (by omega)
              have q5 := iL_eq (a := n0) (b := 0) (by omega) (by omega) (by omega) (by omega)
              have q6 := iL_le (a := n1) (b := n0) (by omega) (by omega) (by omega) (by omega)
              have q7 := iL_le (a := n0) (b := n1) (by omega) (by omega) (by omega) (by omega)
              refine ks_callV (n := 1) (M' := mX16_pushTruth) (c_rs_pushTruth (d := d + 1) o3 Q3 (b := true)) o3 cl_X16 rfl kx_2200 kx_2202 kxp_95 kx_30 kx_2203 (by decide +kernel) rfl (by decide) (Nat.le_of_ble_eq_true rfl) rfl dX16_reckon_452 rfl (fun zz SS yy => ?_)
              obtain ⟨rfl, V9, F9, m9, hc⟩ := yy
              rcases hc with ⟨ca, cb, cc⟩ | ⟨ca, cb, cc⟩
              · refine ks_goto (tgt := 560) dX16_reckon_455 (by decide) ?_
                refine ks_ret rfl dX16_reckon_560 ?_
                refine ⟨rfl, V9, F9, _, ys, M3.trans m9, cc, Or.inl ⟨cb.trans v743, ?_⟩⟩
                unfold rkS
                rw [if_pos good]
                show some (flagL (rkH 160 (numV (xs.getD 1 [])) (numV (xs.getD 0 []))) :: _, _) = _
                rw [← en0, ← en1]
                rw [show rkH 160 n1 n0 = true from decide_eq_true (by simp only [iL_zero, q1, q2, q3, q4, q5, q6, q7] at *; omega)]
              · rw [ld] at ca
                omega
          · refine ks_tableIn (off := 365) (tgt := 458) dX16_reckon_93 (by decide) (by decide) (by decide) (by decide) ?_
            refine ks_aload_n dX16_reckon_458 rfl rfl ?_
            refine ks_lload dX16_reckon_459 rfl rfl ?_
            refine ks_lload_n dX16_reckon_461 rfl rfl ?_
            refine ks_lif_gt (tgt := 470) dX16_reckon_462 rfl dX16_reckon_463 (by decide) rfl (fun hb462 => ?_) (fun hb462 => ?_)
            · refine ks_iconst (x := nI 0) dX16_reckon_470 (by decide) rfl ?_
              have q1 := iL_lt (a := n1) (b := n0) (by omega) (by omega) (by omega) (by omega)
              have q2 := iL_lt (a := n0) (b := n1) (by omega) (by omega) (by omega) (by omega)
              have q3 := iL_eq (a := n1) (b := n0) (by omega) (by omega) (by omega) (by omega)
              have q4 := iL_eq (a := n1) (b := 0) (by omega) (by omega) (by omega) (by omega)
              have q5 := iL_eq (a := n0) (b := 0) (by omega) (by omega) (by omega) (by omega)
              have q6 := iL_le (a := n1) (b := n0) (by omega) (by omega) (by omega) (by omega)
              have q7 := iL_le (a := n0) (b := n1) (by omega) (by omega) (by omega) (by omega)
              refine ks_callV (n := 1) (M' := mX16_pushTruth) (c_rs_pushTruth (d := d + 1) o3 Q3 (b := false)) o3 cl_X16 rfl kx_2200 kx_2202 kxp_95 kx_30 kx_2203 (by decide +kernel) rfl (by decide) (Nat.le_of_ble_eq_true rfl) rfl dX16_reckon_471 rfl (fun zz SS yy => ?_)
              obtain ⟨rfl, V9, F9, m9, hc⟩ := yy
              rcases hc with ⟨ca, cb, cc⟩ | ⟨ca, cb, cc⟩
              · refine ks_goto (tgt := 560) dX16_reckon_474 (by decide) ?_
                refine ks_ret rfl dX16_reckon_560 ?_
                refine ⟨rfl, V9, F9, _, ys, M3.trans m9, cc, Or.inl ⟨cb.trans v743, ?_⟩⟩
                unfold rkS
                rw [if_pos good]
                show some (flagL (rkH 161 (numV (xs.getD 1 [])) (numV (xs.getD 0 []))) :: _, _) = _
                rw [← en0, ← en1]
                rw [show rkH 161 n1 n0 = false from decide_eq_false (by simp only [iL_zero, q1, q2, q3, q4, q5, q6, q7] at *; omega)]
              · rw [ld] at ca
                omega
            · refine ks_iconst (x := nI 1) dX16_reckon_466 (by decide) rfl ?_
              refine ks_goto (tgt := 471) dX16_reckon_467 (by decide) ?_
              have q1 := iL_lt (a := n1) (b := n0) (by omega) (by omega) (by omega) (by omega)
              have q2 := iL_lt (a := n0) (b := n1) (by omega) (by omega) (by omega) (by omega)
              have q3 := iL_eq (a := n1) (b := n0) (by omega) (by omega) (by omega) (by omega)
              have q4 := iL_eq (a := n1) (b := 0) (by omega) (by omega) (by omega) (by omega)
              have q5 := iL_eq (a := n0) (b := 0) (by omega) (by omega) (by omega) (by omega)
              have q6 := iL_le (a := n1) (b := n0) (by omega) (by omega) (by omega) (by omega)
              have q7 := iL_le (a := n0) (b := n1) (by omega) (by omega) (by omega) (by omega)
              refine ks_callV (n := 1) (M' := mX16_pushTruth) (c_rs_pushTruth (d := d + 1) o3 Q3 (b := true)) o3 cl_X16 rfl kx_2200 kx_2202 kxp_95 kx_30 kx_2203 (by decide +kernel) rfl (by decide) (Nat.le_of_ble_eq_true rfl) rfl dX16_reckon_471 rfl (fun zz SS yy => ?_)
              obtain ⟨rfl, V9, F9, m9, hc⟩ := yy
              rcases hc with ⟨ca, cb, cc⟩ | ⟨ca, cb, cc⟩
              · refine ks_goto (tgt := 560) dX16_reckon_474 (by decide) ?_
                refine ks_ret rfl dX16_reckon_560 ?_
                refine ⟨rfl, V9, F9, _, ys, M3.trans m9, cc, Or.inl ⟨cb.trans v743, ?_⟩⟩
                unfold rkS
                rw [if_pos good]
                show some (flagL (rkH 161 (numV (xs.getD 1 [])) (numV (xs.getD 0 []))) :: _, _) = _
                rw [← en0, ← en1]
                rw [show rkH 161 n1 n0 = true from decide_eq_true (by simp only [iL_zero, q1, q2, q3, q4, q5, q6, q7] at *; omega)]
              · rw [ld] at ca
                omega
          · refine ks_tableIn (off := 384) (tgt := 477) dX16_reckon_93 (by decide) (by decide) (by decide) (by decide) ?_
            refine ks_aload_n dX16_reckon_477 rfl rfl ?_
            refine ks_lload dX16_reckon_478 rfl rfl ?_
            refine ks_lload_n dX16_reckon_480 rfl rfl ?_
            refine ks_lif_lt (tgt := 489) dX16_reckon_481 rfl dX16_reckon_482 (by decide) rfl (fun hb481 => ?_) (fun hb481 => ?_)
            · refine ks_iconst (x := nI 0) dX16_reckon_489 (by decide) rfl ?_
              have q1 := iL_lt (a := n1) (b := n0) (by omega) (by omega) (by omega) (by omega)
              have q2 := iL_lt (a := n0) (b := n1) (by omega) (by omega) (by omega) (by omega)
              have q3 := iL_eq (a := n1) (b := n0) (by omega) (by omega) (by omega) (by omega)
              have q4 := iL_eq (a := n1) (b := 0) (by omega) (by omega) (by omega) (by omega)
              have q5 := iL_eq (a := n0) (b := 0) (by omega) (by omega) (by omega) (by omega)
              have q6 := iL_le (a := n1) (b := n0) (by omega) (by omega) (by omega) (by omega)
              have q7 := iL_le (a := n0) (b := n1) (by omega) (by omega) (by omega) (by omega)
              refine ks_callV (n := 1) (M' := mX16_pushTruth) (c_rs_pushTruth (d := d + 1) o3 Q3 (b := false)) o3 cl_X16 rfl kx_2200 kx_2202 kxp_95 kx_30 kx_2203 (by decide +kernel) rfl (by decide) (Nat.le_of_ble_eq_true rfl) rfl dX16_reckon_490 rfl (fun zz SS yy => ?_)
              obtain ⟨rfl, V9, F9, m9, hc⟩ := yy
              rcases hc with ⟨ca, cb, cc⟩ | ⟨ca, cb, cc⟩
              · refine ks_goto (tgt := 560) dX16_reckon_493 (by decide) ?_
                refine ks_ret rfl dX16_reckon_560 ?_
                refine ⟨rfl, V9, F9, _, ys, M3.trans m9, cc, Or.inl ⟨cb.trans v743, ?_⟩⟩
                unfold rkS
                rw [if_pos good]
                show some (flagL (rkH 162 (numV (xs.getD 1 [])) (numV (xs.getD 0 []))) :: _, _) = _
                rw [← en0, ← en1]
                rw [show rkH 162 n1 n0 = false from decide_eq_false (by simp only [iL_zero, q1, q2, q3, q4, q5, q6, q7] at *; omega)]
              · rw [ld] at ca
                omega
            · refine ks_iconst (x := nI 1) dX16_reckon_485 (by decide) rfl ?_
              refine ks_goto (tgt := 490) dX16_reckon_486 (by decide) ?_
              have q1 := iL_lt (a := n1) (b := n0) (by omega) (by omega) (by omega) (by omega)
              have q2 := iL_lt (a := n0) (b := n1) (by omega) (by omega) (by omega) (by omega)
              have q3 := iL_eq (a := n1) (b := n0) (by omega) (by omega) (by omega) (by omega)
              have q4 := iL_eq (a := n1) (b := 0) (by omega) (by omega) (by omega) (by omega)
              have q5 := iL_eq (a := n0) (b := 0) (by omega) (by omega) (by omega) (by omega)
              have q6 := iL_le (a := n1) (b := n0) (by omega) (by omega) (by omega) (by omega)
              have q7 := iL_le (a := n0) (b := n1) (by omega) (by omega) (by omega) (by omega)
              refine ks_callV (n := 1) (M' := mX16_pushTruth) (c_rs_pushTruth (d := d + 1) o3 Q3 (b := true)) o3 cl_X16 rfl kx_2200 kx_2202 kxp_95 kx_30 kx_2203 (by decide +kernel) rfl (by decide) (Nat.le_of_ble_eq_true rfl) rfl dX16_reckon_490 rfl (fun zz SS yy => ?_)
              obtain ⟨rfl, V9, F9, m9, hc⟩ := yy
              rcases hc with ⟨ca, cb, cc⟩ | ⟨ca, cb, cc⟩
              · refine ks_goto (tgt := 560) dX16_reckon_493 (by decide) ?_
                refine ks_ret rfl dX16_reckon_560 ?_
                refine ⟨rfl, V9, F9, _, ys, M3.trans m9, cc, Or.inl ⟨cb.trans v743, ?_⟩⟩
                unfold rkS
                rw [if_pos good]
                show some (flagL (rkH 162 (numV (xs.getD 1 [])) (numV (xs.getD 0 []))) :: _, _) = _
                rw [← en0, ← en1]
                rw [show rkH 162 n1 n0 = true from decide_eq_true (by simp only [iL_zero, q1, q2, q3, q4, q5, q6, q7] at *; omega)]
              · rw [ld] at ca
                omega
          · refine ks_tableIn (off := 403) (tgt := 496) dX16_reckon_93 (by decide) (by decide) (by decide) (by decide) ?_
            refine ks_aload_n dX16_reckon_496 rfl rfl ?_
            refine ks_lload dX16_reckon_497 rfl rfl ?_
            refine ks_lload_n dX16_reckon_499 rfl rfl ?_
            refine ks_lif_ge (tgt := 509) dX16_reckon_500 rfl dX16_reckon_501 (by decide) rfl (fun hb => ?_) (fun hb => ?_)
            · have p0 : ¬ n1 < n0 := Int.not_lt.mpr ((iL_le (a := n0) (b := n1) (by omega) (by omega) (by omega) (by omega)).mp hb)
              refine ks_lload_n dX16_reckon_509 rfl rfl ?_
              refine ks_callV (n := 1) (M' := mX16_pushNumber) (c_rs_pushNumber (d := d + 2) o3 Q3 (v := n0) (by omega)) o3 cl_X16 rfl kx_2184 kx_2186 kxp_91 kx_30 kx_2187 (by decide +kernel) rfl (by decide) (Nat.le_of_ble_eq_true rfl) rfl dX16_reckon_510 rfl (fun zz SS yy => ?_)
              obtain ⟨rfl, V9, F9, m9, hc⟩ := yy
              rcases hc with ⟨ca, cb, cc⟩ | ⟨ca, cb, cc⟩
              · refine ks_goto (tgt := 560) dX16_reckon_513 (by decide) ?_
                refine ks_ret rfl dX16_reckon_560 ?_
                refine ⟨rfl, V9, F9, _, ys, M3.trans m9, cc, Or.inl ⟨cb.trans v743, ?_⟩⟩
                unfold rkS
                rw [if_pos good]
                show some (numI (rk2 163 (numV (xs.getD 1 [])) (numV (xs.getD 0 []))) :: _, _) = _
                rw [← en0, ← en1]
                rw [show rk2 163 n1 n0 = n0 from if_neg p0]
              · rw [ld] at ca
                omega
            · have p0 : n1 < n0 := Int.not_le.mp (fun h => hb ((iL_le (a := n0) (b := n1) (by omega) (by omega) (by omega) (by omega)).mpr h))
              refine ks_lload dX16_reckon_504 rfl rfl ?_
              refine ks_goto (tgt := 510) dX16_reckon_506 (by decide) ?_
              refine ks_callV (n := 1) (M' := mX16_pushNumber) (c_rs_pushNumber (d := d + 2) o3 Q3 (v := n1) (by omega)) o3 cl_X16 rfl kx_2184 kx_2186 kxp_91 kx_30 kx_2187 (by decide +kernel) rfl (by decide) (Nat.le_of_ble_eq_true rfl) rfl dX16_reckon_510 rfl (fun zz SS yy => ?_)
              obtain ⟨rfl, V9, F9, m9, hc⟩ := yy
              rcases hc with ⟨ca, cb, cc⟩ | ⟨ca, cb, cc⟩
              · refine ks_goto (tgt := 560) dX16_reckon_513 (by decide) ?_
                refine ks_ret rfl dX16_reckon_560 ?_
                refine ⟨rfl, V9, F9, _, ys, M3.trans m9, cc, Or.inl ⟨cb.trans v743, ?_⟩⟩
                unfold rkS
                rw [if_pos good]
                show some (numI (rk2 163 (numV (xs.getD 1 [])) (numV (xs.getD 0 []))) :: _, _) = _
                rw [← en0, ← en1]
                rw [show rk2 163 n1 n0 = n1 from if_pos p0]
              · rw [ld] at ca
                omega
          · refine ks_tableIn (off := 423) (tgt := 516) dX16_reckon_93 (by decide) (by decide) (by decide) (by decide) ?_
            refine ks_aload_n dX16_reckon_516 rfl rfl ?_
            refine ks_lload dX16_reckon_517 rfl rfl ?_
            refine ks_lload_n dX16_reckon_519 rfl rfl ?_
            refine ks_lif_le (tgt := 529) dX16_reckon_520 rfl dX16_reckon_521 (by decide) rfl (fun hb => ?_) (fun hb => ?_)
            · have p0 : ¬ n0 < n1 := Int.not_lt.mpr ((iL_le (a := n1) (b := n0) (by omega) (by omega) (by omega) (by omega)).mp hb)
              refine ks_lload_n dX16_reckon_529 rfl rfl ?_
              refine ks_callV (n := 1) (M' := mX16_pushNumber) (c_rs_pushNumber (d := d + 2) o3 Q3 (v := n0) (by omega)) o3 cl_X16 rfl kx_2184 kx_2186 kxp_91 kx_30 kx_2187 (by decide +kernel) rfl (by decide) (Nat.le_of_ble_eq_true rfl) rfl dX16_reckon_530 rfl (fun zz SS yy => ?_)
              obtain ⟨rfl, V9, F9, m9, hc⟩ := yy
              rcases hc with ⟨ca, cb, cc⟩ | ⟨ca, cb, cc⟩
              · refine ks_goto (tgt := 560) dX16_reckon_533 (by decide) ?_
                refine ks_ret rfl dX16_reckon_560 ?_
                refine ⟨rfl, V9, F9, _, ys, M3.trans m9, cc, Or.inl ⟨cb.trans v743, ?_⟩⟩
                unfold rkS
                rw [if_pos good]
                show some (numI (rk2 164 (numV (xs.getD 1 [])) (numV (xs.getD 0 []))) :: _, _) = _
                rw [← en0, ← en1]
                rw [show rk2 164 n1 n0 = n0 from if_neg p0]
              · rw [ld] at ca
                omega
            · have p0 : n0 < n1 := Int.not_le.mp (fun h => hb ((iL_le (a := n1) (b := n0) (by omega) (by omega) (by omega) (by omega)).mpr h))
              refine ks_lload dX16_reckon_524 rfl rfl ?_
              refine ks_goto (tgt := 530) dX16_reckon_526 (by decide) ?_
              refine ks_callV (n := 1) (M' := mX16_pushNumber) (c_rs_pushNumber (d := d + 2) o3 Q3 (v := n1) (by omega)) o3 cl_X16 rfl kx_2184 kx_2186 kxp_91 kx_30 kx_2187 (by decide +kernel) rfl (by decide) (Nat.le_of_ble_eq_true rfl) rfl dX16_reckon_530 rfl (fun zz SS yy => ?_)
              obtain ⟨rfl, V9, F9, m9, hc⟩ := yy
              rcases hc with ⟨ca, cb, cc⟩ | ⟨ca, cb, cc⟩
              · refine ks_goto (tgt := 560) dX16_reckon_533 (by decide) ?_
                refine ks_ret rfl dX16_reckon_560 ?_
                refine ⟨rfl, V9, F9, _, ys, M3.trans m9, cc, Or.inl ⟨cb.trans v743, ?_⟩⟩
                unfold rkS
                rw [if_pos good]
                show some (numI (rk2 164 (numV (xs.getD 1 [])) (numV (xs.getD 0 []))) :: _, _) = _
                rw [← en0, ← en1]
                rw [show rk2 164 n1 n0 = n1 from if_pos p0]
              · rw [ld] at ca
                omega
          · refine ks_tableOut (tgt := 536) dX16_reckon_93 ((show ∀ q, q < 256 → (q < 139 ∨ 164 < q) → ((nI q).toInt < 139 ∨ 164 < (nI q).toInt) by decide +kernel) _ hop hsw) (by decide) ?_
            exact absurd etk (by unfold tkO; rw [if_neg (by omega), if_pos (by omega)]; decide)
        · exact absurd hf (by decide)
      · have e1 := j1 c1
        obtain rfl := e1.symm
        rw [if_neg c1]
        obtain ⟨f1, q1⟩ := msK.fail hO hK
        have why1 : ¬ okN xs 1 := fun h => c1 h.2
        refine ks_goto (tgt := 55) dX16_reckon_51 (by decide) ?_
        refine ks_lstore dX16_reckon_55 (by decide) rfl ?_
        refine ks_sub [(5, _), (0, _), (1, _), (2, _), (3, _)] rfl ?_
        refine ks_iload_n dX16_reckon_57 rfl rfl ?_
        refine ks_iconst (x := nI 2) dX16_reckon_58 (by decide) rfl ?_
        refine ks_icmp_leN (tgt := 71) (by decide) (by decide) dX16_reckon_59 (by decide) rfl (fun _ => ?_) (fun h => absurd h (by decide))
        refine ks_lconst (x := lN 0) dX16_reckon_71 (by decide) rfl ?_
        refine ks_lstore dX16_reckon_72 (by decide) rfl ?_
        refine ks_sub [(7, _), (0, _), (1, _), (2, _), (3, _), (5, _)] rfl ?_
        refine ks_aload_n dX16_reckon_74 rfl rfl ?_
        refine ks_getf (T := TX16) (kf := 74) kx_2442 rfl in_X16 cl_X16 (by decide) f1.2.1 rfl dX16_reckon_75 rfl ?_
        refine ks_tv (va_up_self _ _ _) ?_
        refine ks_if_eqZ (tgt := 82) dX16_reckon_78 (by decide) rfl (fun hf => ?_) (fun hf => ?_)
        · exact absurd hf (by decide)
        · refine ks_ret rfl dX16_reckon_81 ?_
          exact ⟨rfl, (va_up V 74 (.int (ks_bo true))), F, xs, ys, f1, q1, Or.inr ⟨va_up_self _ _ _, fun q hq => by rw [rk_none (i := 1) (by rw [etk]; decide) why1] at hq; cases hq⟩⟩
    · have e0 := j0 c0
      obtain rfl := e0.symm
      rw [if_neg c0]
      obtain ⟨f0, q0⟩ := msK.fail hO hK
      have why0 : ¬ okN xs 0 := fun h => c0 h.2
      refine ks_lstore_n dX16_reckon_39 (by decide) rfl ?_
      refine ks_sub [(3, _), (0, _), (1, _), (2, _)] rfl ?_
      refine ks_iload_n dX16_reckon_40 rfl rfl ?_
      refine ks_iconst (x := nI 1) dX16_reckon_41 (by decide) rfl ?_
      refine ks_icmp_leN (tgt := 54) (by decide) (by decide) dX16_reckon_42 (by decide) rfl (fun h => absurd h (by decide)) (fun _ => ?_)
      refine ks_aload_n dX16_reckon_45 rfl rfl ?_
      refine ks_iconst (x := nI 1) dX16_reckon_46 (by decide) rfl ?_
      refine ks_iconst (x := nI 4) dX16_reckon_47 (by decide) rfl ?_
      refine ks_callV (n := 2) (M' := mX16_numberAt) (c_rs_numberAt (d := d + 4) f0.2.1 q0 (k := 1) (mo := 4) (by omega) (by decide)) f0.2.1 cl_X16 rfl kx_2196 kx_2198 kxp_94 kx_30 kx_2199 (by decide +kernel) rfl (by decide) (Nat.le_of_ble_eq_true rfl) rfl dX16_reckon_48 rfl (fun z1 S1 y1 => ?_)
      obtain ⟨rfl, k1, j1⟩ := y1
      by_cases c1 : (xs.getD 1 []).length ≤ 4
      · have e1 := k1 c1
        obtain rfl := e1.symm
        rw [if_pos c1]
        refine ks_goto (tgt := 55) dX16_reckon_51 (by decide) ?_
        refine ks_lstore dX16_reckon_55 (by decide) rfl ?_
        refine ks_sub [(5, _), (0, _), (1, _), (2, _), (3, _)] rfl ?_
        refine ks_iload_n dX16_reckon_57 rfl rfl ?_
        refine ks_iconst (x := nI 2) dX16_reckon_58 (by decide) rfl ?_
        refine ks_icmp_leN (tgt := 71) (by decide) (by decide) dX16_reckon_59 (by decide) rfl (fun _ => ?_) (fun h => absurd h (by decide))
        refine ks_lconst (x := lN 0) dX16_reckon_71 (by decide) rfl ?_
        refine ks_lstore dX16_reckon_72 (by decide) rfl ?_
        refine ks_sub [(7, _), (0, _), (1, _), (2, _), (3, _), (5, _)] rfl ?_
        refine ks_aload_n dX16_reckon_74 rfl rfl ?_
        refine ks_getf (T := TX16) (kf := 74) kx_2442 rfl in_X16 cl_X16 (by decide) f0.2.1 rfl dX16_reckon_75 rfl ?_
        refine ks_tv (va_up_self _ _ _) ?_
        refine ks_if_eqZ (tgt := 82) dX16_reckon_78 (by decide) rfl (fun hf => ?_) (fun hf => ?_)
        · exact absurd hf (by decide)
        · refine ks_ret rfl dX16_reckon_81 ?_
          exact ⟨rfl, (va_up V 74 (.int (ks_bo true))), F, xs, ys, f0, q0, Or.inr ⟨va_up_self _ _ _, fun q hq => by rw [rk_none (i := 0) (by rw [etk]; decide) why0] at hq; cases hq⟩⟩
      · have e1 := j1 c1
        obtain rfl := e1.symm
        rw [if_neg c1]
        obtain ⟨f1, q1⟩ := msK.fail f0.2.1 q0
        have f1' := f0.trans f1
        refine ks_goto (tgt := 55) dX16_reckon_51 (by decide) ?_
        refine ks_lstore dX16_reckon_55 (by decide) rfl ?_
        refine ks_sub [(5, _), (0, _), (1, _), (2, _), (3, _)] rfl ?_
        refine ks_iload_n dX16_reckon_57 rfl rfl ?_
        refine ks_iconst (x := nI 2) dX16_reckon_58 (by decide) rfl ?_
        refine ks_icmp_leN (tgt := 71) (by decide) (by decide) dX16_reckon_59 (by decide) rfl (fun _ => ?_) (fun h => absurd h (by decide))
        refine ks_lconst (x := lN 0) dX16_reckon_71 (by decide) rfl ?_
        refine ks_lstore dX16_reckon_72 (by decide) rfl ?_
        refine ks_sub [(7, _), (0, _), (1, _), (2, _), (3, _), (5, _)] rfl ?_
        refine ks_aload_n dX16_reckon_74 rfl rfl ?_
        refine ks_getf (T := TX16) (kf := 74) kx_2442 rfl in_X16 cl_X16 (by decide) f1.2.1 rfl dX16_reckon_75 rfl ?_
        refine ks_tv (va_up_self _ _ _) ?_
        refine ks_if_eqZ (tgt := 82) dX16_reckon_78 (by decide) rfl (fun hf => ?_) (fun hf => ?_)
        · exact absurd hf (by decide)
        · refine ks_ret rfl dX16_reckon_81 ?_
          exact ⟨rfl, (va_up (va_up V 74 (.int (ks_bo true))) 74 (.int (ks_bo true))), F, xs, ys, f1', q1, Or.inr ⟨va_up_self _ _ _, fun q hq => by rw [rk_none (i := 0) (by rw [etk]; decide) why0] at hq; cases hq⟩⟩
  have from3 : tkO op = 3 → 3 ≤ xs.length → ks_X l G mX16_reckon (d + 5) 33 [(0, .ref 290), (1, .int (nI op)), (2, .int (nI 3))] [] S (fun z S' => z = none ∧ opR S S' V F (rkS op xs ys) vs) := by
    intro etk hn
    refine ks_aload_n dX16_reckon_33 rfl rfl ?_
    refine ks_iconst (x := nI 0) dX16_reckon_34 (by decide) rfl ?_
    refine ks_iconst (x := nI 4) dX16_reckon_35 (by decide) rfl ?_
    refine ks_callV (n := 2) (M' := mX16_numberAt) (c_rs_numberAt (d := d + 4) hO hK (k := 0) (mo := 4) (by omega) (by decide)) hO cl_X16 rfl kx_2196 kx_2198 kxp_94 kx_30 kx_2199 (by decide +kernel) rfl (by decide) (Nat.le_of_ble_eq_true rfl) rfl dX16_reckon_36 rfl (fun z0 S0 y0 => ?_)
    obtain ⟨rfl, k0, j0⟩ := y0
    by_cases c0 : (xs.getD 0 []).length ≤ 4
    · have e0 := k0 c0
      obtain rfl := e0.symm
      rw [if_pos c0]
      have nb0 := numV_b4 c0 (by obtain ⟨_, _, _, _, h9, _⟩ := hK; exact rsK_b h9 (by omega))
      obtain ⟨n0, en0⟩ : ∃ n, n = numV (xs.getD 0 []) := ⟨_, rfl⟩
      rw [← en0] at nb0 ⊢
      refine ks_lstore_n dX16_reckon_39 (by decide) rfl ?_
      refine ks_sub [(3, _), (0, _), (1, _), (2, _)] rfl ?_
      refine ks_iload_n dX16_reckon_40 rfl rfl ?_
      refine ks_iconst (x := nI 1) dX16_reckon_41 (by decide) rfl ?_
      refine ks_icmp_leN (tgt := 54) (by decide) (by decide) dX16_reckon_42 (by decide) rfl (fun h => absurd h (by decide)) (fun _ => ?_)
      refine ks_aload_n dX16_reckon_45 rfl rfl ?_
      refine ks_iconst (x := nI 1) dX16_reckon_46 (by decide) rfl ?_
      refine ks_iconst (x := nI 4) dX16_reckon_47 (by decide) rfl ?_
      refine ks_callV (n := 2) (M' := mX16_numberAt) (c_rs_numberAt (d := d + 4) hO hK (k := 1) (mo := 4) (by omega) (by decide)) hO cl_X16 rfl kx_2196 kx_2198 kxp_94 kx_30 kx_2199 (by decide +kernel) rfl (by decide) (Nat.le_of_ble_eq_true rfl) rfl dX16_reckon_48 rfl (fun z1 S1 y1 => ?_)
      obtain ⟨rfl, k1, j1⟩ := y1
      by_cases c1 : (xs.getD 1 []).length ≤ 4
      · have e1 := k1 c1
        obtain rfl := e1.symm
        rw [if_pos c1]
        have nb1 := numV_b4 c1 (by obtain ⟨_, _, _, _, h9, _⟩ := hK; exact rsK_b h9 (by omega))
        obtain ⟨n1, en1⟩ : ∃ n, n = numV (xs.getD 1 []) := ⟨_, rfl⟩
        rw [← en1] at nb1 ⊢
        refine ks_goto (tgt := 55) dX16_reckon_51 (by decide) ?_
        refine ks_lstore dX16_reckon_55 (by decide) rfl ?_
        refine ks_sub [(5, _), (0, _), (1, _), (2, _), (3, _)] rfl ?_
        refine ks_iload_n dX16_reckon_57 rfl rfl ?_
        refine ks_iconst (x := nI 2) dX16_reckon_58 (by decide) rfl ?_
        refine ks_icmp_leN (tgt := 71) (by decide) (by decide) dX16_reckon_59 (by decide) rfl (fun h => absurd h (by decide)) (fun _ => ?_)
        refine ks_aload_n dX16_reckon_62 rfl rfl ?_
        refine ks_iconst (x := nI 2) dX16_reckon_63 (by decide) rfl ?_
        refine ks_iconst (x := nI 4) dX16_reckon_64 (by decide) rfl ?_
        refine ks_callV (n := 2) (M' := mX16_numberAt) (c_rs_numberAt (d := d + 4) hO hK (k := 2) (mo := 4) (by omega) (by decide)) hO cl_X16 rfl kx_2196 kx_2198 kxp_94 kx_30 kx_2199 (by decide +kernel) rfl (by decide) (Nat.le_of_ble_eq_true rfl) rfl dX16_reckon_65 rfl (fun z2 S2 y2 => ?_)
        obtain ⟨rfl, k2, j2⟩ := y2
        by_cases c2 : (xs.getD 2 []).length ≤ 4
        · have e2 := k2 c2
          obtain rfl := e2.symm
          rw [if_pos c2]
          have nb2 := numV_b4 c2 (by obtain ⟨_, _, _, _, h9, _⟩ := hK; exact rsK_b h9 (by omega))
          obtain ⟨n2, en2⟩ : ∃ n, n = numV (xs.getD 2 []) := ⟨_, rfl⟩
          rw [← en2] at nb2 ⊢
          refine ks_goto (tgt := 72) dX16_reckon_68 (by decide) ?_
          refine ks_lstore dX16_reckon_72 (by decide) rfl ?_
          refine ks_sub [(7, _), (0, _), (1, _), (2, _), (3, _), (5, _)] rfl ?_
          refine ks_aload_n dX16_reckon_74 rfl rfl ?_
          refine ks_getf (T := TX16) (kf := 74) kx_2442 rfl in_X16 cl_X16 (by decide) hO rfl dX16_reckon_75 rfl ?_
          refine ks_tv v74 ?_
          refine ks_if_eqZ (tgt := 82) dX16_reckon_78 (by decide) rfl (fun hf => ?_) (fun hf => ?_)
          · have good : ∀ i, i < tkO op → okN xs i := fun i hi => by
              rw [etk] at hi
              have h9 : i = 0 ∨ i = 1 ∨ i = 2 := by omega
              rcases h9 with rfl | rfl | rfl
              · exact ⟨by omega, c0⟩
              · exact ⟨by omega, c1⟩
              · exact ⟨by omega, c2⟩
            obtain ⟨Q3, M3⟩ := rsQ.pop (k := 3) hO hK
            have v743 : (va_up V 67 (.int (nI (xs.length - 3)))) 74 = .int (ks_bo false) := (va_up_ne _ _ (by decide)).trans v74
            have ld : (xs.drop 3).length = xs.length - 3 := List.length_drop
            refine ks_aload_n dX16_reckon_82 rfl rfl ?_
            refine ks_dup dX16_reckon_83 rfl rfl ?_
            refine ks_getf (T := TX16) (kf := 67) kx_2435 rfl in_X16 cl_X16 (by decide) hO rfl dX16_reckon_84 rfl ?_
            refine ks_tv v67 ?_
            refine ks_iload_n dX16_reckon_87 rfl rfl ?_
            refine ks_subN (by omega) dX16_reckon_88 rfl ?_
            refine ks_putf (T := TX16) (kf := 67) kx_2435 rfl in_X16 tyX16_ok nmX16 cl_X16 (by decide) hO (Nat.le_of_ble_eq_true rfl) rfl rfl rfl rfl dX16_reckon_89 rfl ?_
            refine md_put mdp_67 ?_
            have o3 : (ks_set S 290 (rfE (va_up V 67 (.int (nI (xs.length - 3)))))).2.2 290 = some (rfE (va_up V 67 (.int (nI (xs.length - 3))))) := ks_set_same _ _ _
            refine ks_iload_n dX16_reckon_92 rfl rfl ?_
            have hsw : op = 139 ∨ op = 140 ∨ op = 141 ∨ op = 142 ∨ op = 143 ∨ op = 144 ∨ op = 145 ∨ op = 146 ∨ op = 147 ∨ op = 148 ∨ op = 149 ∨ op = 150 ∨ op = 151 ∨ op = 152 ∨ op = 153 ∨ op = 154 ∨ op = 155 ∨ op = 156 ∨ op = 157 ∨ op = 158 ∨ op = 159 ∨ op = 160 ∨ op = 161 ∨ op = 162 ∨ op = 163 ∨ op = 164 ∨ ((op < 139 ∨ 164 < op)) := by omega
            rcases hsw with rfl | rfl | rfl | rfl | rfl | rfl | rfl | rfl | rfl | rfl | rfl | rfl | rfl | rfl | rfl | rfl | rfl | rfl | rfl | rfl | rfl | rfl | rfl | rfl | rfl | rfl | hsw
            · refine ks_tableIn (off := 119) (tgt := 212) dX16_reckon_93 (by decide) (by decide) (by decide) (by decide) ?_
              exact absurd etk (by decide)
            · refine ks_tableIn (off := 129) (tgt := 222) dX16_reckon_93 (by decide) (by decide) (by decide) (by decide) ?_
              exact absurd etk (by decide)
            · refine ks_tableIn (off := 443) (tgt := 536) dX16_reckon_93 (by decide) (by decide) (by decide) (by decide) ?_
              omega
            · refine ks_tableIn (off := 443) (tgt := 536) dX16_reckon_93 (by decide) (by decide) (by decide) (by decide) ?_
              omega
            · refine ks_tableIn (off := 139) (tgt := 232) dX16_reckon_93 (by decide) (by decide) (by decide) (by decide) ?_
              exact absurd etk (by decide)
            · refine ks_tableIn (off := 148) (tgt := 241) dX16_reckon_93 (by decide) (by decide) (by decide) (by decide) ?_
              exact absurd etk (by decide)
            · refine ks_tableIn (off := 167) (tgt := 260) dX16_reckon_93 (by decide) (by decide) (by decide) (by decide) ?_
              exact absurd etk (by decide)
            · refine ks_tableIn (off := 167) (tgt := 260) dX16_reckon_93 (by decide) (by decide) (by decide) (by decide) ?_
              exact absurd etk (by decide)
            · refine ks_tableIn (off := 205) (tgt := 298) dX16_reckon_93 (by decide) (by decide) (by decide) (by decide) ?_
              exact absurd etk (by decide)
            · refine ks_tableIn (off := 216) (tgt := 309) dX16_reckon_93 (by decide) (by decide) (by decide) (by decide) ?_
              exact absurd etk (by decide)
            · refine ks_tableIn (off := 443) (tgt := 536) dX16_reckon_93 (by decide) (by decide) (by decide) (by decide) ?_
              omega
            · refine ks_tableIn (off := 443) (tgt := 536) dX16_reckon_93 (by decide) (by decide) (by decide) (by decide) ?_
              omega
            · refine ks_tableIn (off := 443) (tgt := 536) dX16_reckon_93 (by decide) (by decide) (by decide) (by decide) ?_
              omega
            · refine ks_tableIn (off := 443) (tgt := 536) dX16_reckon_93 (by decide) (by decide) (by decide) (by decide) ?_
              omega
            · refine ks_tableIn (off := 443) (tgt := 536) dX16_reckon_93 (by decide) (by decide) (by decide) (by decide) ?_
              omega
            · refine ks_tableIn (off := 227) (tgt := 320) dX16_reckon_93 (by decide) (by decide) (by decide) (by decide) ?_
              exact absurd etk (by decide)
            · refine ks_tableIn (off := 252) (tgt := 345) dX16_reckon_93 (by decide) (by decide) (by decide) (by decide) ?_
              exact absurd etk (by decide)
            · refine ks_tableIn (off := 277) (tgt := 370) dX16_reckon_93 (by decide) (by decide) (by decide) (by decide) ?_
              exact absurd etk (by decide)
            · refine ks_tableIn (off := 277) (tgt := 370) dX16_reckon_93 (by decide) (by decide) (by decide) (by decide) ?_
              exact absurd etk (by decide)
            · refine ks_tableIn (off := 308) (tgt := 401) dX16_reckon_93 (by decide) (by decide) (by decide) (by decide) ?_
              exact absurd etk (by decide)
            · refine ks_tableIn (off := 327) (tgt := 420) dX16_reckon_93 (by decide) (by decide) (by decide) (by decide) ?_
              exact absurd etk (by decide)
            · refine ks_tableIn (off := 346) (tgt := 439) dX16_reckon_93 (by decide) (by decide) (by decide) (by decide) ?_
              exact absurd etk (by decide)
            · refine ks_tableIn (off := 365) (tgt := 458) dX16_reckon_93 (by decide) (by decide) (by decide) (by decide) ?_
              exact absurd etk (by decide)
            · refine ks_tableIn (off := 384) (tgt := 477) dX16_reckon_93 (by decide) (by decide) (by decide) (by decide) ?_
              exact absurd etk (by decide)
            · refine ks_tableIn (off := 403) (tgt := 496) dX16_reckon_93 (by decide) (by decide) (by decide) (by decide) ?_
              exact absurd etk (by decide)
            · refine ks_tableIn (off := 423) (tgt := 516) dX16_reckon_93 (by decide) (by decide) (by decide) (by decide) ?_
              exact absurd etk (by decide)
            · refine ks_tableOut (tgt := 536) dX16_reckon_93 ((show ∀ q, q < 256 → (q < 139 ∨ 164 < q) → ((nI q).toInt < 139 ∨ 164 < (nI q).toInt) by decide +kernel) _ hop hsw) (by decide) ?_
              obtain rfl : op = 165 := by omega
              refine ks_aload_n dX16_reckon_536 rfl rfl ?_
              refine ks_lload dX16_reckon_537 rfl rfl ?_
              refine ks_lload dX16_reckon_539 rfl rfl ?_
              refine ks_lif_gt (tgt := 556) dX16_reckon_541 rfl dX16_reckon_542 (by decide) rfl (fun hb541 => ?_) (fun hb541 => ?_)
              · refine ks_iconst (x := nI 0) dX16_reckon_556 (by decide) rfl ?_
                have q1 := iL_lt (a := n1) (b := n0) (by omega) (by omega) (by omega) (by omega)
                have q2 := iL_lt (a := n0) (b := n1) (by omega) (by omega) (by omega) (by omega)
                have q3 := iL_eq (a := n1) (b := n0) (by omega) (by omega) (by omega) (by omega)
                have q4 := iL_eq (a := n1) (b := 0) (by omega) (by omega) (by omega) (by omega)
                have q5 := iL_eq (a := n0) (b := 0) (by omega) (by omega) (by omega) (by omega)
                have q6 := iL_le (a := n1) (b := n0) (by omega) (by omega) (by omega) (by omega)
                have q7 := iL_le (a := n0) (b := n1) (by omega) (by omega) (by omega) (by omega)
                have q8 := iL_le (a := n1) (b := n2) (by omega) (by omega) (by omega) (by omega)
                have q9 := iL_lt (a := n2) (b := n0) (by omega) (by omega) (by omega) (by omega)
                have qa := iL_lt (a := n2) (b := n1) (by omega) (by omega) (by omega) (by omega)
                have qb := iL_le (a := n0) (b := n2) (by omega) (by omega) (by omega) (by omega)
                refine ks_callV (n := 1) (M' := mX16_pushTruth) (c_rs_pushTruth (d := d + 1) o3 Q3 (b := false)) o3 cl_X16 rfl kx_2200 kx_2202 kxp_95 kx_30 kx_2203 (by decide +kernel) rfl (by decide) (Nat.le_of_ble_eq_true rfl) rfl dX16_reckon_557 rfl (fun zz SS yy => ?_)
                obtain ⟨rfl, V9, F9, m9, hc⟩ := yy
                rcases hc with ⟨ca, cb, cc⟩ | ⟨ca, cb, cc⟩
                · refine ks_ret rfl dX16_reckon_560 ?_
                  refine ⟨rfl, V9, F9, _, ys, M3.trans m9, cc, Or.inl ⟨cb.trans v743, ?_⟩⟩
                  unfold rkS
                  rw [if_pos good]
                  show some (flagL (decide (numV (xs.getD 1 []) ≤ numV (xs.getD 2 []) ∧ numV (xs.getD 2 []) < numV (xs.getD 0 []))) :: _, _) = _
                  rw [← en0, ← en1, ← en2, show decide (n1 ≤ n2 ∧ n2 < n0) = false from decide_eq_false (by simp only [iL_zero, q1, q2, q3, q4, q5, q6, q7, q8, q9, qa, qb] at *; omega)]
                · rw [ld] at ca
                  omega
              · refine ks_lload dX16_reckon_545 rfl rfl ?_
                refine ks_lload_n dX16_reckon_547 rfl rfl ?_
                refine ks_lif_ge (tgt := 556) dX16_reckon_548 rfl dX16_reckon_549 (by decide) rfl (fun hb548 => ?_) (fun hb548 => ?_)
                · refine ks_iconst (x := nI 0) dX16_reckon_556 (by decide) rfl ?_
                  have q1 := iL_lt (a := n1) (b := n0) (by omega) (by omega) (by omega) (by omega)
                  have q2 := iL_lt (a := n0) (b := n1) (by omega) (by omega) (by omega) (by omega)
                  have q3 := iL_eq (a := n1) (b := n0) (by omega) (by omega) (by omega) (by omega)
                  have q4 := iL_eq (a := n1) (b := 0) (by omega) (by omega) (by omega) (by omega)
                  have q5 := iL_eq (a := n0) (b := 0) (by omega) (by omega) (by omega) (by omega)
                  have q6 := iL_le (a := n1) (b := n0) (by omega) (by omega) (by omega) (by omega)
                  have q7 := iL_le (a := n0) (b := n1) (by omega) (by omega) (by omega) (by omega)
                  have q8 := iL_le (a := n1) (b := n2) (by omega) (by omega) (by omega) (by omega)
                  have q9 := iL_lt (a := n2) (b := n0) (by omega) (by omega) (by omega) (by omega)
                  have qa := iL_lt (a := n2) (b := n1) (by omega) (by omega) (by omega) (by omega)
                  have qb := iL_le (a := n0) (b := n2) (by omega) (by omega) (by omega) (by omega)
                  refine ks_callV (n := 1) (M' := mX16_pushTruth) (c_rs_pushTruth (d := d + 1) o3 Q3 (b := false)) o3 cl_X16 rfl kx_2200 kx_2202 kxp_95 kx_30 kx_2203 (by decide +kernel) rfl (by decide) (Nat.le_of_ble_eq_true rfl) rfl dX16_reckon_557 rfl (fun zz SS yy => ?_)
                  obtain ⟨rfl, V9, F9, m9, hc⟩ := yy
                  rcases hc with ⟨ca, cb, cc⟩ | ⟨ca, cb, cc⟩
                  · refine ks_ret rfl dX16_reckon_560 ?_
                    refine ⟨rfl, V9, F9, _, ys, M3.trans m9, cc, Or.inl ⟨cb.trans v743, ?_⟩⟩
                    unfold rkS
                    rw [if_pos good]
                    show some (flagL (decide (numV (xs.getD 1 []) ≤ numV (xs.getD 2 []) ∧ numV (xs.getD 2 []) < numV (xs.getD 0 []))) :: _, _) = _
                    rw [← en0, ← en1, ← en2, show decide (n1 ≤ n2 ∧ n2 < n0) = false from decide_eq_false (by simp only [iL_zero, q1, q2, q3, q4, q5, q6, q7, q8, q9, qa, qb] at *; omega)]
                  · rw [ld] at ca
                    omega
                · refine ks_iconst (x := nI 1) dX16_reckon_552 (by decide) rfl ?_
                  refine ks_goto (tgt := 557) dX16_reckon_553 (by decide) ?_
                  have q1 := iL_lt (a := n1) (b := n0) (by omega) (by omega) (by omega) (by omega)
                  have q2 := iL_lt (a := n0) (b := n1) (by omega) (by omega) (by omega) (by omega)
                  have q3 := iL_eq (a := n1) (b := n0) (by omega) (by omega) (by omega) (by omega)
                  have q4 := iL_eq (a := n1) (b := 0) (by omega) (by omega) (by omega) (by omega)
                  have q5 := iL_eq (a := n0) (b := 0) (by omega) (by omega) (by omega) (by omega)
                  have q6 := iL_le (a := n1) (b := n0) (by omega) (by omega) (by omega) (by omega)
                  have q7 := iL_le (a := n0) (b := n1) (by omega) (by omega) (by omega) (by omega)
                  have q8 := iL_le (a := n1) (b := n2) (by omega) (by omega) (by omega) (by omega)
                  have q9 := iL_lt (a := n2) (b := n0) (by omega) (by omega) (by omega) (by omega)
                  have qa := iL_lt (a := n2) (b := n1) (by omega) (by omega) (by omega) (by omega)
                  have qb := iL_le (a := n0) (b := n2) (by omega) (by omega) (by omega) (by omega)
                  refine ks_callV (n := 1) (M' := mX16_pushTruth) (c_rs_pushTruth (d := d + 1) o3 Q3 (b := true)) o3 cl_X16 rfl kx_2200 kx_2202 kxp_95 kx_30 kx_2203 (by decide +kernel) rfl (by decide) (Nat.le_of_ble_eq_true rfl) rfl dX16_reckon_557 rfl (fun zz SS yy => ?_)
                  obtain ⟨rfl, V9, F9, m9, hc⟩ := yy
                  rcases hc with ⟨ca, cb, cc⟩ | ⟨ca, cb, cc⟩
                  · refine ks_ret rfl dX16_reckon_560 ?_
                    refine ⟨rfl, V9, F9, _, ys, M3.trans m9, cc, Or.inl ⟨cb.trans v743, ?_⟩⟩
                    unfold rkS
                    rw [if_pos good]
                    show some (flagL (decide (numV (xs.getD 1 []) ≤ numV (xs.getD 2 []) ∧ numV (xs.getD 2 []) < numV (xs.getD 0 []))) :: _, _) = _
                    rw [← en0, ← en1, ← en2, show decide (n1 ≤ n2 ∧ n2 < n0) = true from decide_eq_true (by simp only [iL_zero, q1, q2, q3, q4, q5, q6, q7, q8, q9, qa, qb] at *; omega)]
                  · rw [ld] at ca
                    omega
          · exact absurd hf (by decide)
        · have e2 := j2 c2
          obtain rfl := e2.symm
          rw [if_neg c2]
          obtain ⟨f2, q2⟩ := msK.fail hO hK
          have why2 : ¬ okN xs 2 := fun h => c2 h.2
          refine ks_goto (tgt := 72) dX16_reckon_68 (by decide) ?_
          refine ks_lstore dX16_reckon_72 (by decide) rfl ?_
          refine ks_sub [(7, _), (0, _), (1, _), (2, _), (3, _), (5, _)] rfl ?_
          refine ks_aload_n dX16_reckon_74 rfl rfl ?_
          refine ks_getf (T := TX16) (kf := 74) kx_2442 rfl in_X16 cl_X16 (by decide) f2.2.1 rfl dX16_reckon_75 rfl ?_
          refine ks_tv (va_up_self _ _ _) ?_
          refine ks_if_eqZ (tgt := 82) dX16_reckon_78 (by decide) rfl (fun hf => ?_) (fun hf => ?_)
          · exact absurd hf (by decide)
          · refine ks_ret rfl dX16_reckon_81 ?_
            exact ⟨rfl, (va_up V 74 (.int (ks_bo true))), F, xs, ys, f2, q2, Or.inr ⟨va_up_self _ _ _, fun q hq => by rw [rk_none (i := 2) (by rw [etk]; decide) why2] at hq; cases hq⟩⟩
      · have e1 := j1 c1
        obtain rfl := e1.symm
        rw [if_neg c1]
        obtain ⟨f1, q1⟩ := msK.fail hO hK
        have why1 : ¬ okN xs 1 := fun h => c1 h.2
        refine ks_goto (tgt := 55) dX16_reckon_51 (by decide) ?_
        refine ks_lstore dX16_reckon_55 (by decide) rfl ?_
        refine ks_sub [(5, _), (0, _), (1, _), (2, _), (3, _)] rfl ?_
        refine ks_iload_n dX16_reckon_57 rfl rfl ?_
        refine ks_iconst (x := nI 2) dX16_reckon_58 (by decide) rfl ?_
        refine ks_icmp_leN (tgt := 71) (by decide) (by decide) dX16_reckon_59 (by decide) rfl (fun h => absurd h (by decide)) (fun _ => ?_)
        refine ks_aload_n dX16_reckon_62 rfl rfl ?_
        refine ks_iconst (x := nI 2) dX16_reckon_63 (by decide) rfl ?_
        refine ks_iconst (x := nI 4) dX16_reckon_64 (by decide) rfl ?_
        refine ks_callV (n := 2) (M' := mX16_numberAt) (c_rs_numberAt (d := d + 4) f1.2.1 q1 (k := 2) (mo := 4) (by omega) (by decide)) f1.2.1 cl_X16 rfl kx_2196 kx_2198 kxp_94 kx_30 kx_2199 (by decide +kernel) rfl (by decide) (Nat.le_of_ble_eq_true rfl) rfl dX16_reckon_65 rfl (fun z2 S2 y2 => ?_)
        obtain ⟨rfl, k2, j2⟩ := y2
        by_cases c2 : (xs.getD 2 []).length ≤ 4
        · have e2 := k2 c2
          obtain rfl := e2.symm
          rw [if_pos c2]
          refine ks_goto (tgt := 72) dX16_reckon_68 (by decide) ?_
          refine ks_lstore dX16_reckon_72 (by decide) rfl ?_
          refine ks_sub [(7, _), (0, _), (1, _), (2, _), (3, _), (5, _)] rfl ?_
          refine ks_aload_n dX16_reckon_74 rfl rfl ?_
          refine ks_getf (T := TX16) (kf := 74) kx_2442 rfl in_X16 cl_X16 (by decide) f1.2.1 rfl dX16_reckon_75 rfl ?_
          refine ks_tv (va_up_self _ _ _) ?_
          refine ks_if_eqZ (tgt := 82) dX16_reckon_78 (by decide) rfl (fun hf => ?_) (fun hf => ?_)
          · exact absurd hf (by decide)
          · refine ks_ret rfl dX16_reckon_81 ?_
            exact ⟨rfl, (va_up V 74 (.int (ks_bo true))), F, xs, ys, f1, q1, Or.inr ⟨va_up_self _ _ _, fun q hq => by rw [rk_none (i := 1) (by rw [etk]; decide) why1] at hq; cases hq⟩⟩
        · have e2 := j2 c2
          obtain rfl := e2.symm
          rw [if_neg c2]
          obtain ⟨f2, q2⟩ := msK.fail f1.2.1 q1
          have f2' := f1.trans f2
          refine ks_goto (tgt := 72) dX16_reckon_68 (by decide) ?_
          refine ks_lstore dX16_reckon_72 (by decide) rfl ?_
          refine ks_sub [(7, _), (0, _), (1, _), (2, _), (3, _), (5, _)] rfl ?_
          refine ks_aload_n dX16_reckon_74 rfl rfl ?_
          refine ks_getf (T := TX16) (kf := 74) kx_2442 rfl in_X16 cl_X16 (by decide) f2.2.1 rfl dX16_reckon_75 rfl ?_
          refine ks_tv (va_up_self _ _ _) ?_
          refine ks_if_eqZ (tgt := 82) dX16_reckon_78 (by decide) rfl (fun hf => ?_) (fun hf => ?_)
          · exact absurd hf (by decide)
          · refine ks_ret rfl dX16_reckon_81 ?_
            exact ⟨rfl, (va_up (va_up V 74 (.int (ks_bo true))) 74 (.int (ks_bo true))), F, xs, ys, f2', q2, Or.inr ⟨va_up_self _ _ _, fun q hq => by rw [rk_none (i := 1) (by rw [etk]; decide) why1] at hq; cases hq⟩⟩
    · have e0 := j0 c0
      obtain rfl := e0.symm
      rw [if_neg c0]
      obtain ⟨f0, q0⟩ := msK.fail hO hK
      have why0 : ¬ okN xs 0 := fun h => c0 h.2
      refine ks_lstore_n dX16_reckon_39 (by decide) rfl ?_
      refine ks_sub [(3, _), (0, _), (1, _), (2, _)] rfl ?_
      refine ks_iload_n dX16_reckon_40 rfl rfl ?_
      refine ks_iconst (x := nI 1) dX16_reckon_41 (by decide) rfl ?_
      refine ks_icmp_leN (tgt := 54) (by decide) (by decide) dX16_reckon_42 (by decide) rfl (fun h => absurd h (by decide)) (fun _ => ?_)
      refine ks_aload_n dX16_reckon_45 rfl rfl ?_
      refine ks_iconst (x := nI 1) dX16_reckon_46 (by decide) rfl ?_
      refine ks_iconst (x := nI 4) dX16_reckon_47 (by decide) rfl ?_
      refine ks_callV (n := 2) (M' := mX16_numberAt) (c_rs_numberAt (d := d + 4) f0.2.1 q0 (k := 1) (mo := 4) (by omega) (by decide)) f0.2.1 cl_X16 rfl kx_2196 kx_2198 kxp_94 kx_30 kx_2199 (by decide +kernel) rfl (by decide) (Nat.le_of_ble_eq_true rfl) rfl dX16_reckon_48 rfl (fun z1 S1 y1 => ?_)
      obtain ⟨rfl, k1, j1⟩ := y1
      by_cases c1 : (xs.getD 1 []).length ≤ 4
      · have e1 := k1 c1
        obtain rfl := e1.symm
        rw [if_pos c1]
        refine ks_goto (tgt := 55) dX16_reckon_51 (by decide) ?_
        refine ks_lstore dX16_reckon_55 (by decide) rfl ?_
        refine ks_sub [(5, _), (0, _), (1, _), (2, _), (3, _)] rfl ?_
        refine ks_iload_n dX16_reckon_57 rfl rfl ?_
        refine ks_iconst (x := nI 2) dX16_reckon_58 (by decide) rfl ?_
        refine ks_icmp_leN (tgt := 71) (by decide) (by decide) dX16_reckon_59 (by decide) rfl (fun h => absurd h (by decide)) (fun _ => ?_)
        refine ks_aload_n dX16_reckon_62 rfl rfl ?_
        refine ks_iconst (x := nI 2) dX16_reckon_63 (by decide) rfl ?_
        refine ks_iconst (x := nI 4) dX16_reckon_64 (by decide) rfl ?_
        refine ks_callV (n := 2) (M' := mX16_numberAt) (c_rs_numberAt (d := d + 4) f0.2.1 q0 (k := 2) (mo := 4) (by omega) (by decide)) f0.2.1 cl_X16 rfl kx_2196 kx_2198 kxp_94 kx_30 kx_2199 (by decide +kernel) rfl (by decide) (Nat.le_of_ble_eq_true rfl) rfl dX16_reckon_65 rfl (fun z2 S2 y2 => ?_)
        obtain ⟨rfl, k2, j2⟩ := y2
        by_cases c2 : (xs.getD 2 []).length ≤ 4
        · have e2 := k2 c2
          obtain rfl := e2.symm
          rw [if_pos c2]
          refine ks_goto (tgt := 72) dX16_reckon_68 (by decide) ?_
          refine ks_lstore dX16_reckon_72 (by decide) rfl ?_
          refine ks_sub [(7, _), (0, _), (1, _), (2, _), (3, _), (5, _)] rfl ?_
          refine ks_aload_n dX16_reckon_74 rfl rfl ?_
          refine ks_getf (T := TX16) (kf := 74) kx_2442 rfl in_X16 cl_X16 (by decide) f0.2.1 rfl dX16_reckon_75 rfl ?_
          refine ks_tv (va_up_self _ _ _) ?_
          refine ks_if_eqZ (tgt := 82) dX16_reckon_78 (by decide) rfl (fun hf => ?_) (fun hf => ?_)
          · exact absurd hf (by decide)
          · refine ks_ret rfl dX16_reckon_81 ?_
            exact ⟨rfl, (va_up V 74 (.int (ks_bo true))), F, xs, ys, f0, q0, Or.inr ⟨va_up_self _ _ _, fun q hq => by rw [rk_none (i := 0) (by rw [etk]; decide) why0] at hq; cases hq⟩⟩
        · have e2 := j2 c2
          obtain rfl := e2.symm
          rw [if_neg c2]
          obtain ⟨f2, q2⟩ := msK.fail f0.2.1 q0
          have f2' := f0.trans f2
          refine ks_goto (tgt := 72) dX16_reckon_68 (by decide) ?_
          refine ks_lstore dX16_reckon_72 (by decide) rfl ?_
          refine ks_sub [(7, _), (0, _), (1, _), (2, _), (3, _), (5, _)] rfl ?_
          refine ks_aload_n dX16_reckon_74 rfl rfl ?_
          refine ks_getf (T := TX16) (kf := 74) kx_2442 rfl in_X16 cl_X16 (by decide) f2.2.1 rfl dX16_reckon_75 rfl ?_
          refine ks_tv (va_up_self _ _ _) ?_
          refine ks_if_eqZ (tgt := 82) dX16_reckon_78 (by decide) rfl (fun hf => ?_) (fun hf => ?_)
          · exact absurd hf (by decide)
          · refine ks_ret rfl dX16_reckon_81 ?_
            exact ⟨rfl, (va_up (va_up V 74 (.int (ks_bo true))) 74 (.int (ks_bo true))), F, xs, ys, f2', q2, Or.inr ⟨va_up_self _ _ _, fun q hq => by rw [rk_none (i := 0) (by rw [etk]; decide) why0] at hq; cases hq⟩⟩
      · have e1 := j1 c1
        obtain rfl := e1.symm
        rw [if_neg c1]
        obtain ⟨f1, q1⟩ := msK.fail f0.2.1 q0
        have f1' := f0.trans f1
        refine ks_goto (tgt := 55) dX16_reckon_51 (by decide) ?_
        refine ks_lstore dX16_reckon_55 (by decide) rfl ?_
        refine ks_sub [(5, _), (0, _), (1, _), (2, _), (3, _)] rfl ?_
        refine ks_iload_n dX16_reckon_57 rfl rfl ?_
        refine ks_iconst (x := nI 2) dX16_reckon_58 (by decide) rfl ?_
        refine ks_icmp_leN (tgt := 71) (by decide) (by decide) dX16_reckon_59 (by decide) rfl (fun h => absurd h (by decide)) (fun _ => ?_)
        refine ks_aload_n dX16_reckon_62 rfl rfl ?_
        refine ks_iconst (x := nI 2) dX16_reckon_63 (by decide) rfl ?_
        refine ks_iconst (x := nI 4) dX16_reckon_64 (by decide) rfl ?_
        refine ks_callV (n := 2) (M' := mX16_numberAt) (c_rs_numberAt (d := d + 4) f1'.2.1 q1 (k := 2) (mo := 4) (by omega) (by decide)) f1.2.1 cl_X16 rfl kx_2196 kx_2198 kxp_94 kx_30 kx_2199 (by decide +kernel) rfl (by decide) (Nat.le_of_ble_eq_true rfl) rfl dX16_reckon_65 rfl (fun z2 S2 y2 => ?_)
        obtain ⟨rfl, k2, j2⟩ := y2
        by_cases c2 : (xs.getD 2 []).length ≤ 4
        · have e2 := k2 c2
          obtain rfl := e2.symm
          rw [if_pos c2]
          refine ks_goto (tgt := 72) dX16_reckon_68 (by decide) ?_
          refine ks_lstore dX16_reckon_72 (by decide) rfl ?_
          refine ks_sub [(7, _), (0, _), (1, _), (2, _), (3, _), (5, _)] rfl ?_
          refine ks_aload_n dX16_reckon_74 rfl rfl ?_
          refine ks_getf (T := TX16) (kf := 74) kx_2442 rfl in_X16 cl_X16 (by decide) f1.2.1 rfl dX16_reckon_75 rfl ?_
          refine ks_tv (va_up_self _ _ _) ?_
          refine ks_if_eqZ (tgt := 82) dX16_reckon_78 (by decide) rfl (fun hf => ?_) (fun hf => ?_)
          · exact absurd hf (by decide)
          · refine ks_ret rfl dX16_reckon_81 ?_
            exact ⟨rfl, (va_up (va_up V 74 (.int (ks_bo true))) 74 (.int (ks_bo true))), F, xs, ys, f1', q1, Or.inr ⟨va_up_self _ _ _, fun q hq => by rw [rk_none (i := 0) (by rw [etk]; decide) why0] at hq; cases hq⟩⟩
        · have e2 := j2 c2
          obtain rfl := e2.symm
          rw [if_neg c2]
          obtain ⟨f2, q2⟩ := msK.fail f1'.2.1 q1
          have f2' := f1'.trans f2
          refine ks_goto (tgt := 72) dX16_reckon_68 (by decide) ?_
          refine ks_lstore dX16_reckon_72 (by decide) rfl ?_
          refine ks_sub [(7, _), (0, _), (1, _), (2, _), (3, _), (5, _)] rfl ?_
          refine ks_aload_n dX16_reckon_74 rfl rfl ?_
          refine ks_getf (T := TX16) (kf := 74) kx_2442 rfl in_X16 cl_X16 (by decide) f2.2.1 rfl dX16_reckon_75 rfl ?_
          refine ks_tv (va_up_self _ _ _) ?_
          refine ks_if_eqZ (tgt := 82) dX16_reckon_78 (by decide) rfl (fun hf => ?_) (fun hf => ?_)
          · exact absurd hf (by decide)
          · refine ks_ret rfl dX16_reckon_81 ?_
            exact ⟨rfl, (va_up (va_up (va_up V 74 (.int (ks_bo true))) 74 (.int (ks_bo true))) 74 (.int (ks_bo true))), F, xs, ys, f2', q2, Or.inr ⟨va_up_self _ _ _, fun q hq => by rw [rk_none (i := 0) (by rw [etk]; decide) why0] at hq; cases hq⟩⟩
  refine ks_of (by decide) rfl rfl (Nat.le_of_ble_eq_true rfl) ?_
  show ks_X l G mX16_reckon (d + 5) 0 [(0, .ref 290), (1, .int (nI op))] [] S _
  refine ks_iload_n dX16_reckon_0 rfl rfl ?_
  refine ks_sipush (x := nI 165) dX16_reckon_1 (by decide) rfl ?_
  refine ks_icmp_neN (tgt := 11) (by omega) (by decide) dX16_reckon_4 (by decide) rfl (fun h1 => ?_) (fun h1 => ?_)
  · refine ks_iload_n dX16_reckon_11 rfl rfl ?_
    refine ks_sipush (x := nI 147) dX16_reckon_12 (by decide) rfl ?_
    refine ks_icmp_ltN (tgt := 22) (by omega) (by decide) dX16_reckon_15 (by decide) rfl (fun h2 => ?_) (fun h2 => ?_)
    · have etk : tkO op = 1 := by unfold tkO; rw [if_pos h2]
      refine ks_iconst (x := nI 1) dX16_reckon_22 (by decide) rfl ?_
      refine ks_istore_n dX16_reckon_23 (by decide) rfl ?_
      refine ks_sub [(2, _), (0, _), (1, _)] rfl ?_
      refine ks_aload_n dX16_reckon_24 rfl rfl ?_
      refine ks_iload_n dX16_reckon_25 rfl rfl ?_
      refine ks_callV (n := 1) (M' := mX16_need) (c_rs_need (d := d + 4) hO hK (n := 1) (by decide)) hO cl_X16 rfl kx_2165 kx_2167 kxp_87 kx_30 kx_2168 (by decide +kernel) rfl (by decide) (Nat.le_of_ble_eq_true rfl) rfl dX16_reckon_26 rfl (fun z1 S1 y1 => ?_)
      obtain ⟨rfl, n1, n2⟩ := y1
      refine ks_if_neZ (tgt := 33) dX16_reckon_29 (by decide) rfl (fun h9 => ?_) (fun h9 => ?_)
      · have hn := of_decide_eq_true h9
        have e2 := n1 hn
        obtain rfl := e2.symm
        exact ks_sub [(0, _), (1, _), (2, _)] rfl (from1 etk hn)
      · refine ks_ret rfl dX16_reckon_32 ?_
        have hn := of_decide_eq_false h9
        have e2 := n2 hn
        obtain rfl := e2.symm
        obtain ⟨f1, f2⟩ := msK.fail hO hK
        exact ⟨rfl, _, F, xs, ys, f1, f2, Or.inr ⟨va_up_self _ _ _, fun q hq => by rw [rk_none (i := 0) (by rw [etk]; decide) (fun h => by have := h.1; omega)] at hq; cases hq⟩⟩
    · have etk : tkO op = 2 := by unfold tkO; rw [if_neg (by omega), if_neg h1]
      refine ks_iconst (x := nI 2) dX16_reckon_18 (by decide) rfl ?_
      refine ks_goto (tgt := 23) dX16_reckon_19 (by decide) ?_
      refine ks_istore_n dX16_reckon_23 (by decide) rfl ?_
      refine ks_sub [(2, _), (0, _), (1, _)] rfl ?_
      refine ks_aload_n dX16_reckon_24 rfl rfl ?_
      refine ks_iload_n dX16_reckon_25 rfl rfl ?_
      refine ks_callV (n := 1) (M' := mX16_need) (c_rs_need (d := d + 4) hO hK (n := 2) (by decide)) hO cl_X16 rfl kx_2165 kx_2167 kxp_87 kx_30 kx_2168 (by decide +kernel) rfl (by decide) (Nat.le_of_ble_eq_true rfl) rfl dX16_reckon_26 rfl (fun z1 S1 y1 => ?_)
      obtain ⟨rfl, n1, n2⟩ := y1
      refine ks_if_neZ (tgt := 33) dX16_reckon_29 (by decide) rfl (fun h9 => ?_) (fun h9 => ?_)
      · have hn := of_decide_eq_true h9
        have e2 := n1 hn
        obtain rfl := e2.symm
        exact ks_sub [(0, _), (1, _), (2, _)] rfl (from2 etk hn)
      · refine ks_ret rfl dX16_reckon_32 ?_
        have hn := of_decide_eq_false h9
        have e2 := n2 hn
        obtain rfl := e2.symm
        obtain ⟨f1, f2⟩ := msK.fail hO hK
        exact ⟨rfl, _, F, xs, ys, f1, f2, Or.inr ⟨va_up_self _ _ _, fun q hq => by rw [rk_none (i := 1) (by rw [etk]; decide) (fun h => by have := h.1; omega)] at hq; cases hq⟩⟩
  · have etk : tkO op = 3 := by rw [h1]; rfl
    refine ks_iconst (x := nI 3) dX16_reckon_7 (by decide) rfl ?_
    refine ks_goto (tgt := 23) dX16_reckon_8 (by decide) ?_
    refine ks_istore_n dX16_reckon_23 (by decide) rfl ?_
    refine ks_sub [(2, _), (0, _), (1, _)] rfl ?_
    refine ks_aload_n dX16_reckon_24 rfl rfl ?_
    refine ks_iload_n dX16_reckon_25 rfl rfl ?_
    refine ks_callV (n := 1) (M' := mX16_need) (c_rs_need (d := d + 4) hO hK (n := 3) (by decide)) hO cl_X16 rfl kx_2165 kx_2167 kxp_87 kx_30 kx_2168 (by decide +kernel) rfl (by decide) (Nat.le_of_ble_eq_true rfl) rfl dX16_reckon_26 rfl (fun z1 S1 y1 => ?_)
    obtain ⟨rfl, n1, n2⟩ := y1
    refine ks_if_neZ (tgt := 33) dX16_reckon_29 (by decide) rfl (fun h9 => ?_) (fun h9 => ?_)
    · have hn := of_decide_eq_true h9
      have e2 := n1 hn
      obtain rfl := e2.symm
      exact ks_sub [(0, _), (1, _), (2, _)] rfl (from3 etk hn)
    · refine ks_ret rfl dX16_reckon_32 ?_
      have hn := of_decide_eq_false h9
      have e2 := n2 hn
      obtain rfl := e2.symm
      obtain ⟨f1, f2⟩ := msK.fail hO hK
      exact ⟨rfl, _, F, xs, ys, f1, f2, Or.inr ⟨va_up_self _ _ _, fun q hq => by rw [rk_none (i := 2) (by rw [etk]; decide) (fun h => by have := h.1; omega)] at hq; cases hq⟩⟩

/-! THE REFERENCE: act -/
theorem sub80n : ∀ {op : Nat}, op < 256 → (nI op - nI 80).toInt64 = iL ((op : Int) - 80) := sub80
theorem numI_b80 {op : Nat} (h : op ≤ 96) : ((op : Int) - 80).natAbs < 256 ^ 5 := by omega
theorem vf_flag {b : Bool} {r ys : List (List Nat)} : vfS (flagL b :: r) ys = if b = true then some (r, ys) else none := by
  cases b <;> rfl
set_option maxRecDepth 100000 in
set_option maxHeartbeats 1600000 in
theorem c_rs_act {l : Launch} {G : ks_G} {d : Nat} {S : ks_S} {V : Nat → Value} {F : Nat} {xs ys : List (List Nat)} {vs : Vs} {Gp : Pt} {P y N L t b k p m u e inp : Nat} {G9 : Nat → Nat} (hM : mqS S V F xs ys vs Gp P y N G9 L t b k p m u e inp) (hT9 : mqT P y N G9 k u e inp) {cy Nc pb pe : Nat} {gc : Nat → Nat} (v79 : V 79 = .ref cy) (v80 : V 80 = .int (nI pb)) (v81 : V 81 = .int (nI pe)) (hcd : cdQ S cy Nc pe gc) (hck : cdK vs cy Nc pe gc) (hb9 : pb ≤ pe ∧ pe - pb ≤ 1600) {op ops nx : Nat} (hop : op < 256) (hnb : badO op = false) (hl : xs.length + ys.length ≤ 1000) (v74 : V 74 = .int (ks_bo false)) (v82 : V 82 = .int (nI ops)) (hops : ops ≤ 201) {pn : Nat} (v63 : V 63 = .int (nI pn)) (hpn : pn ≤ nx ∧ nx ≤ pe) (h520 : pn ≤ 520) (h99 : ¬ (99 ≤ op ∧ op ≤ 104)) : ks_P l G yX16_act mX16_act (d + 10) [.ref 290, .int (nI op), .ref cy, .int (nI nx)] S (fun z S' => z = none ∧ mqA S S' V F (if op ≤ 78 then some (bytL gc (nx - pn) pn :: xs, ys) else opE (gdF Gp G9 L b k p m u e inp) (lkB G9 L p e inp) op xs ys ops (bytL gc pb (pe - pb))) vs Gp P y N G9 L t b k p m u e inp (opB op nx pb) (opO op xs ops)) := by
  obtain ⟨hO, hK, hG, hh, h369, hlow, h368⟩ := id hM
  obtain ⟨v67, v70, v73, bx9, by8, bv9⟩ := hK.v67
  refine ks_of (by decide) rfl rfl (Nat.le_of_ble_eq_true rfl) ?_
  show ks_X l G mX16_act (d + 10) 0 [(0, .ref 290), (1, .int (nI op)), (2, .ref cy), (3, .int (nI nx))] [] S _
  refine ks_iload_n dX16_act_0 rfl rfl ?_
  refine ks_bipush (x := nI 78) dX16_act_1 (by decide) rfl ?_
  refine ks_icmp_gtN (tgt := 24) (by omega) (by decide) dX16_act_3 (by decide) rfl (fun hc3 => ?_) (fun hc3 => ?_)
  · refine ks_iload_n dX16_act_24 rfl rfl ?_
    refine ks_bipush (x := nI 79) dX16_act_25 (by decide) rfl ?_
    refine ks_icmp_eqN (tgt := 42) (by omega) (by decide) dX16_act_27 (by decide) rfl (fun hc27 => ?_) (fun hc27 => ?_)
    · refine ks_aload_n dX16_act_42 rfl rfl ?_
      refine ks_iload_n dX16_act_43 rfl rfl ?_
      refine ks_bipush (x := nI 80) dX16_act_44 (by decide) rfl ?_
      refine ks_isub dX16_act_46 rfl ?_
      refine ks_i2l dX16_act_47 rfl ?_
      refine ks_tl (y := iL ((op : Int) - 80)) (sub80 hop) ?_
      refine ks_callV (n := 1) (M' := mX16_pushNumber) (c_rs_pushNumber (d := d + 7) hO hK (v := (op : Int) - 80) (numI_b80 (by omega))) hO cl_X16 rfl kx_2184 kx_2186 kxp_91 kx_30 kx_2187 (by decide +kernel) rfl (by decide) (Nat.le_of_ble_eq_true rfl) rfl dX16_act_48 rfl (fun z1 S1 y1 => ?_)
      obtain ⟨rfl, hr⟩ := y1
      refine ks_goto (tgt := 268) dX16_act_51 (by decide) ?_
      refine ks_ret rfl dX16_act_268 ?_
      obtain ⟨e1, e2⟩ := oe_pf (GD := (gdF Gp G9 L b k p m u e inp)) (LK := (lkB G9 L p e inp)) (op := op) (ops := ops) (xs := xs) (ys := ys) (c := bytL gc pb (pe - pb)) (by omega)
      rw [if_neg (show ¬ op ≤ 78 by omega), e1, e2, show opB op nx pb = pb from if_neg (by omega)]
      rw [pf_nm (by omega)]
      exact ⟨rfl, ((hr.op (by omega) v74).mq hM hT9).A v80 v82⟩
    · refine ks_iload_n dX16_act_30 rfl rfl ?_
      refine ks_bipush (x := nI 81) dX16_act_31 (by decide) rfl ?_
      refine ks_icmp_ltN (tgt := 54) (by omega) (by decide) dX16_act_33 (by decide) rfl (fun hc33 => ?_) (fun hc33 => ?_)
      · refine ks_iload_n dX16_act_54 rfl rfl ?_
        refine ks_sipush (x := nI 139) dX16_act_55 (by decide) rfl ?_
        refine ks_icmp_ltN (tgt := 70) (by omega) (by decide) dX16_act_58 (by decide) rfl (fun hc58 => ?_) (fun hc58 => ?_)
        · refine ks_iload_n dX16_act_70 rfl rfl ?_
          refine ks_bipush (x := nI 105) dX16_act_71 (by decide) rfl ?_
          refine ks_icmp_ltN (tgt := 96) (by omega) (by decide) dX16_act_73 (by decide) rfl (fun hc73 => ?_) (fun hc73 => ?_)
          · refine ks_iload_n dX16_act_96 rfl rfl ?_
            refine ks_sipush (x := nI 130) dX16_act_97 (by decide) rfl ?_
            refine ks_icmp_neN (tgt := 130) (by omega) (by decide) dX16_act_100 (by decide) rfl (fun hc100 => ?_) (fun hc100 => ?_)
            · refine ks_iload_n dX16_act_130 rfl rfl ?_
              refine ks_sipush (x := nI 135) dX16_act_131 (by decide) rfl ?_
              refine ks_icmp_eqN (tgt := 144) (by omega) (by decide) dX16_act_134 (by decide) rfl (fun hc134 => ?_) (fun hc134 => ?_)
              · refine ks_aload_n dX16_act_144 rfl rfl ?_
                refine ks_iconst (x := nI 2) dX16_act_145 (by decide) rfl ?_
                refine ks_callV (n := 1) (M' := mX16_need) (c_rs_need (d := d + 9) hO hK (n := 2) (by decide)) hO cl_X16 rfl kx_2165 kx_2167 kxp_87 kx_30 kx_2168 (by decide +kernel) rfl (by decide) (Nat.le_of_ble_eq_true rfl) rfl dX16_act_146 rfl (fun z3 S3 y3 => ?_)
                obtain ⟨rfl, y3a, y3b⟩ := y3
                by_cases c0 : 2 ≤ xs.length
                · obtain rfl := (y3a c0).symm
                  rw [decide_eq_true c0]
                  obtain ⟨T, sz, oz, vz, hK', eF, gS, kS, h367⟩ := id hK
                  obtain ⟨hT, ⟨h362, h364, h366⟩, -, -, hx, -⟩ := id hK'
                  obtain ⟨r1, g1, a1, a2, a3, a4, a5⟩ := hx (xs.length - 1) (by omega)
                  rw [Nat.sub_self] at a5
                  obtain ⟨r2, g2, b1, b2, b3, b4, b5⟩ := hx (xs.length - 2) (by omega)
                  rw [show xs.length - 1 - (xs.length - 2) = 1 by omega] at b5
                  obtain ⟨n1, en1⟩ : ∃ n, n = sz (xs.length - 1) := ⟨_, rfl⟩
                  obtain ⟨n2, en2⟩ : ∃ n, n = sz (xs.length - 2) := ⟨_, rfl⟩
                  rw [← en1] at a4 a5
                  rw [← en2] at b4 b5
                  have esm : (xs.getD 0 [] = xs.getD 1 []) ↔ n1 = n2 ∧ ∀ q, q < n1 → g1 (0 + q) = g2 (0 + q) := by rw [a5, b5]; exact bytL_ext
                  refine ks_if_neZ (tgt := 153) dX16_act_149 (by decide) rfl (fun hc149 => ?_) (fun hc149 => ?_)
                  · refine ks_aload_n dX16_act_153 rfl rfl ?_
                    refine ks_getf (T := TX16) (kf := 66) kx_2434 rfl in_X16 cl_X16 (by decide) hO rfl dX16_act_154 rfl ?_
                    refine ks_aload_n dX16_act_157 rfl rfl ?_
                    refine ks_getf (T := TX16) (kf := 67) kx_2435 rfl in_X16 cl_X16 (by decide) hO rfl dX16_act_158 rfl ?_
                    refine ks_tv v67 ?_
                    refine ks_iconst (x := nI 1) dX16_act_161 (by decide) rfl ?_
                    refine ks_subN (by omega) dX16_act_162 rfl ?_
                    refine ks_ialdN (i := xs.length - 1) h362 rfl (by omega) (by decide) dX16_act_163 rfl ?_
                    rw [← en1]
                    refine ks_aload_n dX16_act_164 rfl rfl ?_
                    refine ks_getf (T := TX16) (kf := 66) kx_2434 rfl in_X16 cl_X16 (by decide) hO rfl dX16_act_165 rfl ?_
                    refine ks_aload_n dX16_act_168 rfl rfl ?_
                    refine ks_getf (T := TX16) (kf := 67) kx_2435 rfl in_X16 cl_X16 (by decide) hO rfl dX16_act_169 rfl ?_
                    refine ks_tv v67 ?_
                    refine ks_iconst (x := nI 2) dX16_act_172 (by decide) rfl ?_
                    refine ks_subN (by omega) dX16_act_173 rfl ?_
                    refine ks_ialdN (i := xs.length - 2) h362 rfl (by omega) (by decide) dX16_act_174 rfl ?_
                    rw [← en2]
                    refine ks_icmp_neN (tgt := 223) (by omega) (by omega) dX16_act_175 (by decide) rfl (fun hc175 => ?_) (fun hc175 => ?_)
                    · refine ks_iconst (x := nI 0) dX16_act_223 (by decide) rfl ?_
                      have hs : ¬ xs.getD 0 [] = xs.getD 1 [] := fun h => hc175 (esm.mp h).1
                      obtain ⟨Q8, m8⟩ := rsQ.pop (k := 2) hO hK
                      have M8 := hM.ms hT9 m8 Q8
                      have l8 : (xs.drop 2).length ≤ 1000 := by rw [List.length_drop]; omega
                      refine ks_istore dX16_act_224 (by decide) rfl ?_
                      refine ks_sub [(4, _), (0, _), (1, _), (2, _), (3, _)] rfl ?_
                      refine ks_aload_n dX16_act_226 rfl rfl ?_
                      refine ks_dup dX16_act_227 rfl rfl ?_
                      refine ks_getf (T := TX16) (kf := 67) kx_2435 rfl in_X16 cl_X16 (by decide) hO rfl dX16_act_228 rfl ?_
                      refine ks_tv v67 ?_
                      refine ks_iconst (x := nI 2) dX16_act_231 (by decide) rfl ?_
                      refine ks_subN (by omega) dX16_act_232 rfl ?_
                      refine ks_putf (T := TX16) (kf := 67) kx_2435 rfl in_X16 tyX16_ok nmX16 cl_X16 (by decide) hO (Nat.le_of_ble_eq_true rfl) rfl rfl rfl rfl dX16_act_233 rfl ?_
                      refine md_put mdp_67 ?_
                      refine ks_aload_n dX16_act_236 rfl rfl ?_
                      refine ks_iload dX16_act_237 rfl rfl ?_
                      refine ks_iload_n dX16_act_239 rfl rfl ?_
                      refine ks_sipush (x := nI 136) dX16_act_240 (by decide) rfl ?_
                      refine ks_icmp_neN (tgt := 250) (by omega) (by decide) dX16_act_243 (by decide) rfl (fun h9 => ?_) (fun h9 => ?_)
                      · refine ks_iconst (x := nI 0) dX16_act_250 (by decide) rfl ?_
                        refine ks_callV (n := 2) (M' := mX16_answer) (c_rs_answer (d := d + 5) M8.1 M8.2.1 (b := false) (v := false) l8 ((va_up_ne _ _ (by decide)).trans v74)) (ks_set_same _ _ _) cl_X16 rfl kx_2204 kx_2206 kxp_96 kx_30 kx_2207 (by decide +kernel) rfl (by decide) (Nat.le_of_ble_eq_true rfl) rfl dX16_act_251 rfl (fun z9 S9 y9 => ?_)
                        obtain ⟨rfl, hr⟩ := y9
                        refine ks_goto (tgt := 268) dX16_act_254 (by decide) ?_
                        refine ks_ret rfl dX16_act_268 ?_
                        have hk9 : op = 135 := by omega
                        subst hk9
                        have hc9 : cmS xs ys = some (flagL false :: xs.drop 2, ys) := by
                          unfold cmS
                          rw [if_neg (by omega), decide_eq_false hs]
                        rw [if_neg (by decide), show opB 135 nx pb = pb from rfl, show opO 135 xs ops = ops from rfl]
                        rw [show opE (gdF Gp G9 L b k p m u e inp) (lkB G9 L p e inp) 135 xs ys ops (bytL gc pb (pe - pb)) = cmS xs ys from rfl, hc9]
                        exact ⟨rfl, ((hr.mq M8 hT9).A ((va_up_ne _ _ (by decide)).trans v80) ((va_up_ne _ _ (by decide)).trans v82)).after (mqK.ms m8).j⟩
                      · refine ks_iconst (x := nI 1) dX16_act_246 (by decide) rfl ?_
                        refine ks_goto (tgt := 251) dX16_act_247 (by decide) ?_
                        refine ks_callV (n := 2) (M' := mX16_answer) (c_rs_answer (d := d + 5) M8.1 M8.2.1 (b := false) (v := true) l8 ((va_up_ne _ _ (by decide)).trans v74)) (ks_set_same _ _ _) cl_X16 rfl kx_2204 kx_2206 kxp_96 kx_30 kx_2207 (by decide +kernel) rfl (by decide) (Nat.le_of_ble_eq_true rfl) rfl dX16_act_251 rfl (fun z9 S9 y9 => ?_)
                        obtain ⟨rfl, hr⟩ := y9
                        refine ks_goto (tgt := 268) dX16_act_254 (by decide) ?_
                        refine ks_ret rfl dX16_act_268 ?_
                        have hk9 : op = 136 := by omega
                        subst hk9
                        have hc9 : cmS xs ys = some (flagL false :: xs.drop 2, ys) := by
                          unfold cmS
                          rw [if_neg (by omega), decide_eq_false hs]
                        rw [if_neg (by decide), show opB 136 nx pb = pb from rfl, show opO 136 xs ops = ops from rfl]
                        rw [show opE (gdF Gp G9 L b k p m u e inp) (lkB G9 L p e inp) 136 xs ys ops (bytL gc pb (pe - pb)) = (match cmS xs ys with | some q => vfS q.1 q.2 | none => none) from rfl, hc9]
                        rw [show (match some (flagL false :: xs.drop 2, ys) with | some q => vfS q.1 q.2 | none => none) = vfS (flagL false :: xs.drop 2) ys from rfl, vf_flag]
                        exact ⟨rfl, ((hr.mq M8 hT9).A ((va_up_ne _ _ (by decide)).trans v80) ((va_up_ne _ _ (by decide)).trans v82)).after (mqK.ms m8).j⟩
                    · refine ks_aload_n dX16_act_178 rfl rfl ?_
                      refine ks_getf (T := TX16) (kf := 65) kx_2433 rfl in_X16 cl_X16 (by decide) hO rfl dX16_act_179 rfl ?_
                      refine ks_aload_n dX16_act_182 rfl rfl ?_
                      refine ks_getf (T := TX16) (kf := 67) kx_2435 rfl in_X16 cl_X16 (by decide) hO rfl dX16_act_183 rfl ?_
                      refine ks_tv v67 ?_
                      refine ks_iconst (x := nI 1) dX16_act_186 (by decide) rfl ?_
                      refine ks_subN (by omega) dX16_act_187 rfl ?_
                      refine ks_aaldN (i := xs.length - 1) (b := r1) (by decide) (hT.1 0 (by decide)) rfl (by omega) (by decide) a1 dX16_act_188 rfl ?_
                      refine ks_iconst (x := nI 0) dX16_act_189 (by decide) rfl ?_
                      refine ks_aload_n dX16_act_190 rfl rfl ?_
                      refine ks_getf (T := TX16) (kf := 65) kx_2433 rfl in_X16 cl_X16 (by decide) hO rfl dX16_act_191 rfl ?_
                      refine ks_aload_n dX16_act_194 rfl rfl ?_
                      refine ks_getf (T := TX16) (kf := 67) kx_2435 rfl in_X16 cl_X16 (by decide) hO rfl dX16_act_195 rfl ?_
                      refine ks_tv v67 ?_
                      refine ks_iconst (x := nI 2) dX16_act_198 (by decide) rfl ?_
                      refine ks_subN (by omega) dX16_act_199 rfl ?_
                      refine ks_aaldN (i := xs.length - 2) (b := r2) (by decide) (hT.1 0 (by decide)) rfl (by omega) (by decide) b1 dX16_act_200 rfl ?_
                      refine ks_iconst (x := nI 0) dX16_act_201 (by decide) rfl ?_
                      refine ks_aload_n dX16_act_202 rfl rfl ?_
                      refine ks_getf (T := TX16) (kf := 66) kx_2434 rfl in_X16 cl_X16 (by decide) hO rfl dX16_act_203 rfl ?_
                      refine ks_aload_n dX16_act_206 rfl rfl ?_
                      refine ks_getf (T := TX16) (kf := 67) kx_2435 rfl in_X16 cl_X16 (by decide) hO rfl dX16_act_207 rfl ?_
                      refine ks_tv v67 ?_
                      refine ks_iconst (x := nI 1) dX16_act_210 (by decide) rfl ?_
                      refine ks_subN (by omega) dX16_act_211 rfl ?_
                      refine ks_ialdN (i := xs.length - 1) h362 rfl (by omega) (by decide) dX16_act_212 rfl ?_
                      rw [← en1]
                      refine ks_callS (n := 5) (M' := mX16_alike) (c_md_alike (d := d + 9) a2 a3 b2 b3 (i := 0) (k := 0) (n := n1) (by omega) (by omega) (by decide) (by decide)) kx_2134 kx_2135 kx_30 kx_2136 (by decide +kernel) rfl (by decide) (Nat.le_of_ble_eq_true rfl) rfl dX16_act_213 rfl (fun z5 S5 y5 => ?_)
                      obtain ⟨rfl, hT5⟩ := y5
                      obtain rfl := hT5.symm
                      refine ks_if_eqZ (tgt := 223) dX16_act_216 (by decide) rfl (fun hc216 => ?_) (fun hc216 => ?_)
                      · refine ks_iconst (x := nI 0) dX16_act_223 (by decide) rfl ?_
                        have hs : ¬ xs.getD 0 [] = xs.getD 1 [] := fun h => absurd (decide_eq_true (esm.mp h).2) (by rw [hc216]; decide)
                        obtain ⟨Q8, m8⟩ := rsQ.pop (k := 2) hO hK
                        have M8 := hM.ms hT9 m8 Q8
                        have l8 : (xs.drop 2).length ≤ 1000 := by rw [List.length_drop]; omega
                        refine ks_istore dX16_act_224 (by decide) rfl ?_
                        refine ks_sub [(4, _), (0, _), (1, _), (2, _), (3, _)] rfl ?_
                        refine ks_aload_n dX16_act_226 rfl rfl ?_
                        refine ks_dup dX16_act_227 rfl rfl ?_
                        refine ks_getf (T := TX16) (kf := 67) kx_2435 rfl in_X16 cl_X16 (by decide) hO rfl dX16_act_228 rfl ?_
                        refine ks_tv v67 ?_
                        refine ks_iconst (x := nI 2) dX16_act_231 (by decide) rfl ?_
                        refine ks_subN (by omega) dX16_act_232 rfl ?_
                        refine ks_putf (T := TX16) (kf := 67) kx_2435 rfl in_X16 tyX16_ok nmX16 cl_X16 (by decide) hO (Nat.le_of_ble_eq_true rfl) rfl rfl rfl rfl dX16_act_233 rfl ?_
                        refine md_put mdp_67 ?_
                        refine ks_aload_n dX16_act_236 rfl rfl ?_
                        refine ks_iload dX16_act_237 rfl rfl ?_
                        refine ks_iload_n dX16_act_239 rfl rfl ?_
                        refine ks_sipush (x := nI 136) dX16_act_240 (by decide) rfl ?_
                        refine ks_icmp_neN (tgt := 250) (by omega) (by decide) dX16_act_243 (by decide) rfl (fun h9 => ?_) (fun h9 => ?_)
                        · refine ks_iconst (x := nI 0) dX16_act_250 (by decide) rfl ?_
                          refine ks_callV (n := 2) (M' := mX16_answer) (c_rs_answer (d := d + 5) M8.1 M8.2.1 (b := false) (v := false) l8 ((va_up_ne _ _ (by decide)).trans v74)) (ks_set_same _ _ _) cl_X16 rfl kx_2204 kx_2206 kxp_96 kx_30 kx_2207 (by decide +kernel) rfl (by decide) (Nat.le_of_ble_eq_true rfl) rfl dX16_act_251 rfl (fun z9 S9 y9 => ?_)
                          obtain ⟨rfl, hr⟩ := y9
                          refine ks_goto (tgt := 268) dX16_act_254 (by decide) ?_
                          refine ks_ret rfl dX16_act_268 ?_
                          have hk9 : op = 135 := by omega
                          subst hk9
                          have hc9 : cmS xs ys = some (flagL false :: xs.drop 2, ys) := by
                            unfold cmS
                            rw [if_neg (by omega), decide_eq_false hs]
                          rw [if_neg (by decide), show opB 135 nx pb = pb from rfl, show opO 135 xs ops = ops from rfl]
                          rw [show opE (gdF Gp G9 L b k p m u e inp) (lkB G9 L p e inp) 135 xs ys ops (bytL gc pb (pe - pb)) = cmS xs ys from rfl, hc9]
                          exact ⟨rfl, ((hr.mq M8 hT9).A ((va_up_ne _ _ (by decide)).trans v80) ((va_up_ne _ _ (by decide)).trans v82)).after (mqK.ms m8).j⟩
                        · refine ks_iconst (x := nI 1) dX16_act_246 (by decide) rfl ?_
                          refine ks_goto (tgt := 251) dX16_act_247 (by decide) ?_
                          refine ks_callV (n := 2) (M' := mX16_answer) (c_rs_answer (d := d + 5) M8.1 M8.2.1 (b := false) (v := true) l8 ((va_up_ne _ _ (by decide)).trans v74)) (ks_set_same _ _ _) cl_X16 rfl kx_2204 kx_2206 kxp_96 kx_30 kx_2207 (by decide +kernel) rfl (by decide) (Nat.le_of_ble_eq_true rfl) rfl dX16_act_251 rfl (fun z9 S9 y9 => ?_)
                          obtain ⟨rfl, hr⟩ := y9
                          refine ks_goto (tgt := 268) dX16_act_254 (by decide) ?_
                          refine ks_ret rfl dX16_act_268 ?_
                          have hk9 : op = 136 := by omega
                          subst hk9
                          have hc9 : cmS xs ys = some (flagL false :: xs.drop 2, ys) := by
                            unfold cmS
                            rw [if_neg (by omega), decide_eq_false hs]
                          rw [if_neg (by decide), show opB 136 nx pb = pb from rfl, show opO 136 xs ops = ops from rfl]
                          rw [show opE (gdF Gp G9 L b k p m u e inp) (lkB G9 L p e inp) 136 xs ys ops (bytL gc pb (pe - pb)) = (match cmS xs ys with | some q => vfS q.1 q.2 | none => none) from rfl, hc9]
                          rw [show (match some (flagL false :: xs.drop 2, ys) with | some q => vfS q.1 q.2 | none => none) = vfS (flagL false :: xs.drop 2) ys from rfl, vf_flag]
                          exact ⟨rfl, ((hr.mq M8 hT9).A ((va_up_ne _ _ (by decide)).trans v80) ((va_up_ne _ _ (by decide)).trans v82)).after (mqK.ms m8).j⟩
                      · refine ks_iconst (x := nI 1) dX16_act_219 (by decide) rfl ?_
                        refine ks_goto (tgt := 224) dX16_act_220 (by decide) ?_
                        have hs : xs.getD 0 [] = xs.getD 1 [] := esm.mpr ⟨by omega, of_decide_eq_true hc216⟩
                        obtain ⟨Q8, m8⟩ := rsQ.pop (k := 2) hO hK
                        have M8 := hM.ms hT9 m8 Q8
                        have l8 : (xs.drop 2).length ≤ 1000 := by rw [List.length_drop]; omega
                        refine ks_istore dX16_act_224 (by decide) rfl ?_
                        refine ks_sub [(4, _), (0, _), (1, _), (2, _), (3, _)] rfl ?_
                        refine ks_aload_n dX16_act_226 rfl rfl ?_
                        refine ks_dup dX16_act_227 rfl rfl ?_
                        refine ks_getf (T := TX16) (kf := 67) kx_2435 rfl in_X16 cl_X16 (by decide) hO rfl dX16_act_228 rfl ?_
                        refine ks_tv v67 ?_
                        refine ks_iconst (x := nI 2) dX16_act_231 (by decide) rfl ?_
                        refine ks_subN (by omega) dX16_act_232 rfl ?_
                        refine ks_putf (T := TX16) (kf := 67) kx_2435 rfl in_X16 tyX16_ok nmX16 cl_X16 (by decide) hO (Nat.le_of_ble_eq_true rfl) rfl rfl rfl rfl dX16_act_233 rfl ?_
                        refine md_put mdp_67 ?_
                        refine ks_aload_n dX16_act_236 rfl rfl ?_
                        refine ks_iload dX16_act_237 rfl rfl ?_
                        refine ks_iload_n dX16_act_239 rfl rfl ?_
                        refine ks_sipush (x := nI 136) dX16_act_240 (by decide) rfl ?_
                        refine ks_icmp_neN (tgt := 250) (by omega) (by decide) dX16_act_243 (by decide) rfl (fun h9 => ?_) (fun h9 => ?_)
                        · refine ks_iconst (x := nI 0) dX16_act_250 (by decide) rfl ?_
                          refine ks_callV (n := 2) (M' := mX16_answer) (c_rs_answer (d := d + 5) M8.1 M8.2.1 (b := true) (v := false) l8 ((va_up_ne _ _ (by decide)).trans v74)) (ks_set_same _ _ _) cl_X16 rfl kx_2204 kx_2206 kxp_96 kx_30 kx_2207 (by decide +kernel) rfl (by decide) (Nat.le_of_ble_eq_true rfl) rfl dX16_act_251 rfl (fun z9 S9 y9 => ?_)
                          obtain ⟨rfl, hr⟩ := y9
                          refine ks_goto (tgt := 268) dX16_act_254 (by decide) ?_
                          refine ks_ret rfl dX16_act_268 ?_
                          have hk9 : op = 135 := by omega
                          subst hk9
                          have hc9 : cmS xs ys = some (flagL true :: xs.drop 2, ys) := by
                            unfold cmS
                            rw [if_neg (by omega), decide_eq_true hs]
                          rw [if_neg (by decide), show opB 135 nx pb = pb from rfl, show opO 135 xs ops = ops from rfl]
                          rw [show opE (gdF Gp G9 L b k p m u e inp) (lkB G9 L p e inp) 135 xs ys ops (bytL gc pb (pe - pb)) = cmS xs ys from rfl, hc9]
                          exact ⟨rfl, ((hr.mq M8 hT9).A ((va_up_ne _ _ (by decide)).trans v80) ((va_up_ne _ _ (by decide)).trans v82)).after (mqK.ms m8).j⟩
                        · refine ks_iconst (x := nI 1) dX16_act_246 (by decide) rfl ?_
                          refine ks_goto (tgt := 251) dX16_act_247 (by decide) ?_
                          refine ks_callV (n := 2) (M' := mX16_answer) (c_rs_answer (d := d + 5) M8.1 M8.2.1 (b := true) (v := true) l8 ((va_up_ne _ _ (by decide)).trans v74)) (ks_set_same _ _ _) cl_X16 rfl kx_2204 kx_2206 kxp_96 kx_30 kx_2207 (by decide +kernel) rfl (by decide) (Nat.le_of_ble_eq_true rfl) rfl dX16_act_251 rfl (fun z9 S9 y9 => ?_)
                          obtain ⟨rfl, hr⟩ := y9
                          refine ks_goto (tgt := 268) dX16_act_254 (by decide) ?_
                          refine ks_ret rfl dX16_act_268 ?_
                          have hk9 : op = 136 := by omega
                          subst hk9
                          have hc9 : cmS xs ys = some (flagL true :: xs.drop 2, ys) := by
                            unfold cmS
                            rw [if_neg (by omega), decide_eq_true hs]
                          rw [if_neg (by decide), show opB 136 nx pb = pb from rfl, show opO 136 xs ops = ops from rfl]
                          rw [show opE (gdF Gp G9 L b k p m u e inp) (lkB G9 L p e inp) 136 xs ys ops (bytL gc pb (pe - pb)) = (match cmS xs ys with | some q => vfS q.1 q.2 | none => none) from rfl, hc9]
                          rw [show (match some (flagL true :: xs.drop 2, ys) with | some q => vfS q.1 q.2 | none => none) = vfS (flagL true :: xs.drop 2) ys from rfl, vf_flag]
                          exact ⟨rfl, ((hr.mq M8 hT9).A ((va_up_ne _ _ (by decide)).trans v80) ((va_up_ne _ _ (by decide)).trans v82)).after (mqK.ms m8).j⟩
                  · exact absurd hc149 (by decide)
                · obtain rfl := (y3b c0).symm
                  rw [decide_eq_false c0]
                  refine ks_if_neZ (tgt := 153) dX16_act_149 (by decide) rfl (fun hc149 => ?_) (fun hc149 => ?_)
                  · exact absurd hc149 (by decide)
                  · refine ks_ret rfl dX16_act_152 ?_
                    obtain ⟨e1, e2⟩ := oe_pf (GD := (gdF Gp G9 L b k p m u e inp)) (LK := (lkB G9 L p e inp)) (op := op) (ops := ops) (xs := xs) (ys := ys) (c := bytL gc pb (pe - pb)) (by omega)
                    rw [if_neg (show ¬ op ≤ 78 by omega), e1, e2, show opB op nx pb = pb from if_neg (by omega)]
                    exact ⟨rfl, mqA.bad ((mqJ.rf S V F).put (by decide)) (hM.put hT9 (by decide)) (va_up_self _ _ _) (by
                      have hcm : cmS xs ys = none := if_pos (by omega)
                      rcases (show op = 135 ∨ op = 136 by omega) with rfl | rfl
                      · exact hcm
                      · show (match cmS xs ys with | some q => vfS q.1 q.2 | none => none) = none
                        rw [hcm])⟩
              · refine ks_iload_n dX16_act_137 rfl rfl ?_
                refine ks_sipush (x := nI 136) dX16_act_138 (by decide) rfl ?_
                refine ks_icmp_neN (tgt := 257) (by omega) (by decide) dX16_act_141 (by decide) rfl (fun hc141 => ?_) (fun hc141 => ?_)
                · refine ks_iload_n dX16_act_257 rfl rfl ?_
                  refine ks_bipush (x := nI 97) dX16_act_258 (by decide) rfl ?_
                  refine ks_icmp_eqN (tgt := 268) (by omega) (by decide) dX16_act_260 (by decide) rfl (fun hc260 => ?_) (fun hc260 => ?_)
                  · refine ks_ret rfl dX16_act_268 ?_
                    obtain ⟨e1, e2⟩ := oe_pf (GD := (gdF Gp G9 L b k p m u e inp)) (LK := (lkB G9 L p e inp)) (op := op) (ops := ops) (xs := xs) (ys := ys) (c := bytL gc pb (pe - pb)) (by omega)
                    rw [if_neg (show ¬ op ≤ 78 by omega), e1, e2, show opB op nx pb = pb from if_neg (by omega)]
                    have h97 : op = 97 := by omega
                    subst h97
                    exact ⟨rfl, ⟨V, F, xs, ys, mqJ.rf S V F, hM, .inl ⟨v74, rfl, v80, v82⟩⟩⟩
                  · refine ks_aload_n dX16_act_263 rfl rfl ?_
                    refine ks_iconst (x := nI 1) dX16_act_264 (by decide) rfl ?_
                    refine ks_putf (T := TX16) (kf := 74) kx_2442 rfl in_X16 tyX16_ok nmX16 cl_X16 (by decide) hO (Nat.le_of_ble_eq_true rfl) rfl rfl rfl rfl dX16_act_265 rfl ?_
                    refine md_put mdp_74 ?_
                    refine ks_ret rfl dX16_act_268 ?_
                    obtain ⟨e1, e2⟩ := oe_pf (GD := (gdF Gp G9 L b k p m u e inp)) (LK := (lkB G9 L p e inp)) (op := op) (ops := ops) (xs := xs) (ys := ys) (c := bytL gc pb (pe - pb)) (by omega)
                    rw [if_neg (show ¬ op ≤ 78 by omega), e1, e2, show opB op nx pb = pb from if_neg (by omega)]
                    exact ⟨rfl, mqA.bad ((mqJ.rf S V F).put (by decide)) (hM.put hT9 (by decide)) (va_up_self _ _ _) (pf_no (by omega))⟩
                · refine ks_aload_n dX16_act_144 rfl rfl ?_
                  refine ks_iconst (x := nI 2) dX16_act_145 (by decide) rfl ?_
                  refine ks_callV (n := 1) (M' := mX16_need) (c_rs_need (d := d + 9) hO hK (n := 2) (by decide)) hO cl_X16 rfl kx_2165 kx_2167 kxp_87 kx_30 kx_2168 (by decide +kernel) rfl (by decide) (Nat.le_of_ble_eq_true rfl) rfl dX16_act_146 rfl (fun z3 S3 y3 => ?_)
                  obtain ⟨rfl, y3a, y3b⟩ := y3
                  by_cases c0 : 2 ≤ xs.length
                  · obtain rfl := (y3a c0).symm
                    rw [decide_eq_true c0]
                    obtain ⟨T, sz, oz, vz, hK', eF, gS, kS, h367⟩ := id hK
                    obtain ⟨hT, ⟨h362, h364, h366⟩, -, -, hx, -⟩ := id hK'
                    obtain ⟨r1, g1, a1, a2, a3, a4, a5⟩ := hx (xs.length - 1) (by omega)
                    rw [Nat.sub_self] at a5
                    obtain ⟨r2, g2, b1, b2, b3, b4, b5⟩ := hx (xs.length - 2) (by omega)
                    rw [show xs.length - 1 - (xs.length - 2) = 1 by omega] at b5
                    obtain ⟨n1, en1⟩ : ∃ n, n = sz (xs.length - 1) := ⟨_, rfl⟩
                    obtain ⟨n2, en2⟩ : ∃ n, n = sz (xs.length - 2) := ⟨_, rfl⟩
                    rw [← en1] at a4 a5
                    rw [← en2] at b4 b5
                    have esm : (xs.getD 0 [] = xs.getD 1 []) ↔ n1 = n2 ∧ ∀ q, q < n1 → g1 (0 + q) = g2 (0 + q) := by rw [a5, b5]; exact bytL_ext
                    refine ks_if_neZ (tgt := 153) dX16_act_149 (by decide) rfl (fun hc149 => ?_) (fun hc149 => ?_)
                    · refine ks_aload_n dX16_act_153 rfl rfl ?_
                      refine ks_getf (T := TX16) (kf := 66) kx_2434 rfl in_X16 cl_X16 (by decide) hO rfl dX16_act_154 rfl ?_
                      refine ks_aload_n dX16_act_157 rfl rfl ?_
                      refine ks_getf (T := TX16) (kf := 67) kx_2435 rfl in_X16 cl_X16 (by decide) hO rfl dX16_act_158 rfl ?_
                      refine ks_tv v67 ?_
                      refine ks_iconst (x := nI 1) dX16_act_161 (by decide) rfl ?_
                      refine ks_subN (by omega) dX16_act_162 rfl ?_
                      refine ks_ialdN (i := xs.length - 1) h362 rfl (by omega) (by decide) dX16_act_163 rfl ?_
                      rw [← en1]
                      refine ks_aload_n dX16_act_164 rfl rfl ?_
                      refine ks_getf (T := TX16) (kf := 66) kx_2434 rfl in_X16 cl_X16 (by decide) hO rfl dX16_act_165 rfl ?_
                      refine ks_aload_n dX16_act_168 rfl rfl ?_
                      refine ks_getf (T := TX16) (kf := 67) kx_2435 rfl in_X16 cl_X16 (by decide) hO rfl dX16_act_169 rfl ?_
                      refine ks_tv v67 ?_
                      refine ks_iconst (x := nI 2) dX16_act_172 (by decide) rfl ?_
                      refine ks_subN (by omega) dX16_act_173 rfl ?_
                      refine ks_ialdN (i := xs.length - 2) h362 rfl (by omega) (by decide) dX16_act_174 rfl ?_
                      rw [← en2]
                      refine ks_icmp_neN (tgt := 223) (by omega) (by omega) dX16_act_175 (by decide) rfl (fun hc175 => ?_) (fun hc175 => ?_)
                      · refine ks_iconst (x := nI 0) dX16_act_223 (by decide) rfl ?_
                        have hs : ¬ xs.getD 0 [] = xs.getD 1 [] := fun h => hc175 (esm.mp h).1
                        obtain ⟨Q8, m8⟩ := rsQ.pop (k := 2) hO hK
                        have M8 := hM.ms hT9 m8 Q8
                        have l8 : (xs.drop 2).length ≤ 1000 := by rw [List.length_drop]; omega
                        refine ks_istore dX16_act_224 (by decide) rfl ?_
                        refine ks_sub [(4, _), (0, _), (1, _), (2, _), (3, _)] rfl ?_
                        refine ks_aload_n dX16_act_226 rfl rfl ?_
                        refine ks_dup dX16_act_227 rfl rfl ?_
                        refine ks_getf (T := TX16) (kf := 67) kx_2435 rfl in_X16 cl_X16 (by decide) hO rfl dX16_act_228 rfl ?_
                        refine ks_tv v67 ?_
                        refine ks_iconst (x := nI 2) dX16_act_231 (by decide) rfl ?_
                        refine ks_subN (by omega) dX16_act_232 rfl ?_
                        refine ks_putf (T := TX16) (kf := 67) kx_2435 rfl in_X16 tyX16_ok nmX16 cl_X16 (by decide) hO (Nat.le_of_ble_eq_true rfl) rfl rfl rfl rfl dX16_act_233 rfl ?_
                        refine md_put mdp_67 ?_
                        refine ks_aload_n dX16_act_236 rfl rfl ?_
                        refine ks_iload dX16_act_237 rfl rfl ?_
                        refine ks_iload_n dX16_act_239 rfl rfl ?_
                        refine ks_sipush (x := nI 136) dX16_act_240 (by decide) rfl ?_
                        refine ks_icmp_neN (tgt := 250) (by omega) (by decide) dX16_act_243 (by decide) rfl (fun h9 => ?_) (fun h9 => ?_)
                        · omega
                        · refine ks_iconst (x := nI 1) dX16_act_246 (by decide) rfl ?_
                          refine ks_goto (tgt := 251) dX16_act_247 (by decide) ?_
                          refine ks_callV (n := 2) (M' := mX16_answer) (c_rs_answer (d := d + 5) M8.1 M8.2.1 (b := false) (v := true) l8 ((va_up_ne _ _ (by decide)).trans v74)) (ks_set_same _ _ _) cl_X16 rfl kx_2204 kx_2206 kxp_96 kx_30 kx_2207 (by decide +kernel) rfl (by decide) (Nat.le_of_ble_eq_true rfl) rfl dX16_act_251 rfl (fun z9 S9 y9 => ?_)
                          obtain ⟨rfl, hr⟩ := y9
                          refine ks_goto (tgt := 268) dX16_act_254 (by decide) ?_
                          refine ks_ret rfl dX16_act_268 ?_
                          have hk9 : op = 136 := by omega
                          subst hk9
                          have hc9 : cmS xs ys = some (flagL false :: xs.drop 2, ys) := by
                            unfold cmS
                            rw [if_neg (by omega), decide_eq_false hs]
                          rw [if_neg (by decide), show opB 136 nx pb = pb from rfl, show opO 136 xs ops = ops from rfl]
                          rw [show opE (gdF Gp G9 L b k p m u e inp) (lkB G9 L p e inp) 136 xs ys ops (bytL gc pb (pe - pb)) = (match cmS xs ys with | some q => vfS q.1 q.2 | none => none) from rfl, hc9]
                          rw [show (match some (flagL false :: xs.drop 2, ys) with | some q => vfS q.1 q.2 | none => none) = vfS (flagL false :: xs.drop 2) ys from rfl, vf_flag]
                          exact ⟨rfl, ((hr.mq M8 hT9).A ((va_up_ne _ _ (by decide)).trans v80) ((va_up_ne _ _ (by decide)).trans v82)).after (mqK.ms m8).j⟩
                      · refine ks_aload_n dX16_act_178 rfl rfl ?_
                        refine ks_getf (T := TX16) (kf := 65) kx_2433 rfl in_X16 cl_X16 (by decide) hO rfl dX16_act_179 rfl ?_
                        refine ks_aload_n dX16_act_182 rfl rfl ?_
                        refine ks_getf (T := TX16) (kf := 67) kx_2435 rfl in_X16 cl_X16 (by decide) hO rfl dX16_act_183 rfl ?_
                        refine ks_tv v67 ?_
                        refine ks_iconst (x := nI 1) dX16_act_186 (by decide) rfl ?_
                        refine ks_subN (by omega) dX16_act_187 rfl ?_
                        refine ks_aaldN (i := xs.length - 1) (b := r1) (by decide) (hT.1 0 (by decide)) rfl (by omega) (by decide) a1 dX16_act_188 rfl ?_
                        refine ks_iconst (x := nI 0) dX16_act_189 (by decide) rfl ?_
                        refine ks_aload_n dX16_act_190 rfl rfl ?_
                        refine ks_getf (T := TX16) (kf := 65) kx_2433 rfl in_X16 cl_X16 (by decide) hO rfl dX16_act_191 rfl ?_
                        refine ks_aload_n dX16_act_194 rfl rfl ?_
                        refine ks_getf (T := TX16) (kf := 67) kx_2435 rfl in_X16 cl_X16 (by decide) hO rfl dX16_act_195 rfl ?_
                        refine ks_tv v67 ?_
                        refine ks_iconst (x := nI 2) dX16_act_198 (by decide) rfl ?_
                        refine ks_subN (by omega) dX16_act_199 rfl ?_
                        refine ks_aaldN (i := xs.length - 2) (b := r2) (by decide) (hT.1 0 (by decide)) rfl (by omega) (by decide) b1 dX16_act_200 rfl ?_
                        refine ks_iconst (x := nI 0) dX16_act_201 (by decide) rfl ?_
                        refine ks_aload_n dX16_act_202 rfl rfl ?_
                        refine ks_getf (T := TX16) (kf := 66) kx_2434 rfl in_X16 cl_X16 (by decide) hO rfl dX16_act_203 rfl ?_
                        refine ks_aload_n dX16_act_206 rfl rfl ?_
                        refine ks_getf (T := TX16) (kf := 67) kx_2435 rfl in_X16 cl_X16 (by decide) hO rfl dX16_act_207 rfl ?_
                        refine ks_tv v67 ?_
                        refine ks_iconst (x := nI 1) dX16_act_210 (by decide) rfl ?_
                        refine ks_subN (by omega) dX16_act_211 rfl ?_
                        refine ks_ialdN (i := xs.length - 1) h362 rfl (by omega) (by decide) dX16_act_212 rfl ?_
                        rw [← en1]
                        refine ks_callS (n := 5) (M' := mX16_alike) (c_md_alike (d := d + 9) a2 a3 b2 b3 (i := 0) (k := 0) (n := n1) (by omega) (by omega) (by decide) (by decide)) kx_2134 kx_2135 kx_30 kx_2136 (by decide +kernel) rfl (by decide) (Nat.le_of_ble_eq_true rfl) rfl dX16_act_213 rfl (fun z5 S5 y5 => ?_)
                        obtain ⟨rfl, hT5⟩ := y5
                        obtain rfl := hT5.symm
                        refine ks_if_eqZ (tgt := 223) dX16_act_216 (by decide) rfl (fun hc216 => ?_) (fun hc216 => ?_)
                        · refine ks_iconst (x := nI 0) dX16_act_223 (by decide) rfl ?_
                          have hs : ¬ xs.getD 0 [] = xs.getD 1 [] := fun h => absurd (decide_eq_true (esm.mp h).2) (by rw [hc216]; decide)
                          obtain ⟨Q8, m8⟩ := rsQ.pop (k := 2) hO hK
                          have M8 := hM.ms hT9 m8 Q8
                          have l8 : (xs.drop 2).length ≤ 1000 := by rw [List.length_drop]; omega
                          refine ks_istore dX16_act_224 (by decide) rfl ?_
                          refine ks_sub [(4, _), (0, _), (1, _), (2, _), (3, _)] rfl ?_
                          refine ks_aload_n dX16_act_226 rfl rfl ?_
                          refine ks_dup dX16_act_227 rfl rfl ?_
                          refine ks_getf (T := TX16) (kf := 67) kx_2435 rfl in_X16 cl_X16 (by decide) hO rfl dX16_act_228 rfl ?_
                          refine ks_tv v67 ?_
                          refine ks_iconst (x := nI 2) dX16_act_231 (by decide) rfl ?_
                          refine ks_subN (by omega) dX16_act_232 rfl ?_
                          refine ks_putf (T := TX16) (kf := 67) kx_2435 rfl in_X16 tyX16_ok nmX16 cl_X16 (by decide) hO (Nat.le_of_ble_eq_true rfl) rfl rfl rfl rfl dX16_act_233 rfl ?_
                          refine md_put mdp_67 ?_
                          refine ks_aload_n dX16_act_236 rfl rfl ?_
                          refine ks_iload dX16_act_237 rfl rfl ?_
                          refine ks_iload_n dX16_act_239 rfl rfl ?_
                          refine ks_sipush (x := nI 136) dX16_act_240 (by decide) rfl ?_
                          refine ks_icmp_neN (tgt := 250) (by omega) (by decide) dX16_act_243 (by decide) rfl (fun h9 => ?_) (fun h9 => ?_)
                          · omega
                          · refine ks_iconst (x := nI 1) dX16_act_246 (by decide) rfl ?_
                            refine ks_goto (tgt := 251) dX16_act_247 (by decide) ?_
                            refine ks_callV (n := 2) (M' := mX16_answer) (c_rs_answer (d := d + 5) M8.1 M8.2.1 (b := false) (v := true) l8 ((va_up_ne _ _ (by decide)).trans v74)) (ks_set_same _ _ _) cl_X16 rfl kx_2204 kx_2206 kxp_96 kx_30 kx_2207 (by decide +kernel) rfl (by decide) (Nat.le_of_ble_eq_true rfl) rfl dX16_act_251 rfl (fun z9 S9 y9 => ?_)
                            obtain ⟨rfl, hr⟩ := y9
                            refine ks_goto (tgt := 268) dX16_act_254 (by decide) ?_
                            refine ks_ret rfl dX16_act_268 ?_
                            have hk9 : op = 136 := by omega
                            subst hk9
                            have hc9 : cmS xs ys = some (flagL false :: xs.drop 2, ys) := by
                              unfold cmS
                              rw [if_neg (by omega), decide_eq_false hs]
                            rw [if_neg (by decide), show opB 136 nx pb = pb from rfl, show opO 136 xs ops = ops from rfl]
                            rw [show opE (gdF Gp G9 L b k p m u e inp) (lkB G9 L p e inp) 136 xs ys ops (bytL gc pb (pe - pb)) = (match cmS xs ys with | some q => vfS q.1 q.2 | none => none) from rfl, hc9]
                            rw [show (match some (flagL false :: xs.drop 2, ys) with | some q => vfS q.1 q.2 | none => none) = vfS (flagL false :: xs.drop 2) ys from rfl, vf_flag]
                            exact ⟨rfl, ((hr.mq M8 hT9).A ((va_up_ne _ _ (by decide)).trans v80) ((va_up_ne _ _ (by decide)).trans v82)).after (mqK.ms m8).j⟩
                        · refine ks_iconst (x := nI 1) dX16_act_219 (by decide) rfl ?_
                          refine ks_goto (tgt := 224) dX16_act_220 (by decide) ?_
                          have hs : xs.getD 0 [] = xs.getD 1 [] := esm.mpr ⟨by omega, of_decide_eq_true hc216⟩
                          obtain ⟨Q8, m8⟩ := rsQ.pop (k := 2) hO hK
                          have M8 := hM.ms hT9 m8 Q8
                          have l8 : (xs.drop 2).length ≤ 1000 := by rw [List.length_drop]; omega
                          refine ks_istore dX16_act_224 (by decide) rfl ?_
                          refine ks_sub [(4, _), (0, _), (1, _), (2, _), (3, _)] rfl ?_
                          refine ks_aload_n dX16_act_226 rfl rfl ?_
                          refine ks_dup dX16_act_227 rfl rfl ?_
                          refine ks_getf (T := TX16) (kf := 67) kx_2435 rfl in_X16 cl_X16 (by decide) hO rfl dX16_act_228 rfl ?_
                          refine ks_tv v67 ?_
                          refine ks_iconst (x := nI 2) dX16_act_231 (by decide) rfl ?_
                          refine ks_subN (by omega) dX16_act_232 rfl ?_
                          refine ks_putf (T := TX16) (kf := 67) kx_2435 rfl in_X16 tyX16_ok nmX16 cl_X16 (by decide) hO (Nat.le_of_ble_eq_true rfl) rfl rfl rfl rfl dX16_act_233 rfl ?_
                          refine md_put mdp_67 ?_
                          refine ks_aload_n dX16_act_236 rfl rfl ?_
                          refine ks_iload dX16_act_237 rfl rfl ?_
                          refine ks_iload_n dX16_act_239 rfl rfl ?_
                          refine ks_sipush (x := nI 136) dX16_act_240 (by decide) rfl ?_
                          refine ks_icmp_neN (tgt := 250) (by omega) (by decide) dX16_act_243 (by decide) rfl (fun h9 => ?_) (fun h9 => ?_)
                          · omega
                          · refine ks_iconst (x := nI 1) dX16_act_246 (by decide) rfl ?_
                            refine ks_goto (tgt := 251) dX16_act_247 (by decide) ?_
                            refine ks_callV (n := 2) (M' := mX16_answer) (c_rs_answer (d := d + 5) M8.1 M8.2.1 (b := true) (v := true) l8 ((va_up_ne _ _ (by decide)).trans v74)) (ks_set_same _ _ _) cl_X16 rfl kx_2204 kx_2206 kxp_96 kx_30 kx_2207 (by decide +kernel) rfl (by decide) (Nat.le_of_ble_eq_true rfl) rfl dX16_act_251 rfl (fun z9 S9 y9 => ?_)
                            obtain ⟨rfl, hr⟩ := y9
                            refine ks_goto (tgt := 268) dX16_act_254 (by decide) ?_
                            refine ks_ret rfl dX16_act_268 ?_
                            have hk9 : op = 136 := by omega
                            subst hk9
                            have hc9 : cmS xs ys = some (flagL true :: xs.drop 2, ys) := by
                              unfold cmS
                              rw [if_neg (by omega), decide_eq_true hs]
                            rw [if_neg (by decide), show opB 136 nx pb = pb from rfl, show opO 136 xs ops = ops from rfl]
                            rw [show opE (gdF Gp G9 L b k p m u e inp) (lkB G9 L p e inp) 136 xs ys ops (bytL gc pb (pe - pb)) = (match cmS xs ys with | some q => vfS q.1 q.2 | none => none) from rfl, hc9]
                            rw [show (match some (flagL true :: xs.drop 2, ys) with | some q => vfS q.1 q.2 | none => none) = vfS (flagL true :: xs.drop 2) ys from rfl, vf_flag]
                            exact ⟨rfl, ((hr.mq M8 hT9).A ((va_up_ne _ _ (by decide)).trans v80) ((va_up_ne _ _ (by decide)).trans v82)).after (mqK.ms m8).j⟩
                    · exact absurd hc149 (by decide)
                  · obtain rfl := (y3b c0).symm
                    rw [decide_eq_false c0]
                    refine ks_if_neZ (tgt := 153) dX16_act_149 (by decide) rfl (fun hc149 => ?_) (fun hc149 => ?_)
                    · exact absurd hc149 (by decide)
                    · refine ks_ret rfl dX16_act_152 ?_
                      obtain ⟨e1, e2⟩ := oe_pf (GD := (gdF Gp G9 L b k p m u e inp)) (LK := (lkB G9 L p e inp)) (op := op) (ops := ops) (xs := xs) (ys := ys) (c := bytL gc pb (pe - pb)) (by omega)
                      rw [if_neg (show ¬ op ≤ 78 by omega), e1, e2, show opB op nx pb = pb from if_neg (by omega)]
                      exact ⟨rfl, mqA.bad ((mqJ.rf S V F).put (by decide)) (hM.put hT9 (by decide)) (va_up_self _ _ _) (by
                        have hcm : cmS xs ys = none := if_pos (by omega)
                        rcases (show op = 135 ∨ op = 136 by omega) with rfl | rfl
                        · exact hcm
                        · show (match cmS xs ys with | some q => vfS q.1 q.2 | none => none) = none
                          rw [hcm])⟩
            · refine ks_aload_n dX16_act_103 rfl rfl ?_
              refine ks_iconst (x := nI 1) dX16_act_104 (by decide) rfl ?_
              refine ks_callV (n := 1) (M' := mX16_need) (c_rs_need (d := d + 9) hO hK (n := 1) (by decide)) hO cl_X16 rfl kx_2165 kx_2167 kxp_87 kx_30 kx_2168 (by decide +kernel) rfl (by decide) (Nat.le_of_ble_eq_true rfl) rfl dX16_act_105 rfl (fun z3 S3 y3 => ?_)
              obtain ⟨rfl, y3a, y3b⟩ := y3
              by_cases c0 : 1 ≤ xs.length
              · obtain rfl := (y3a c0).symm
                rw [decide_eq_true c0]
                obtain ⟨T, sz, oz, vz, hK', eF, gS, kS, h367⟩ := id hK
                obtain ⟨hT, ⟨h362, h364, h366⟩, -, -, hx, -⟩ := id hK'
                obtain ⟨r1, g1, a1, a2, a3, a4, a5⟩ := hx (xs.length - 1) (by omega)
                rw [Nat.sub_self] at a5
                have l0 : (xs.getD 0 []).length = sz (xs.length - 1) := by rw [a5, bytL_len]
                refine ks_if_eqZ (tgt := 268) dX16_act_108 (by decide) rfl (fun hc108 => ?_) (fun hc108 => ?_)
                · exact absurd hc108 (by decide)
                · refine ks_aload_n dX16_act_111 rfl rfl ?_
                  refine ks_aload_n dX16_act_112 rfl rfl ?_
                  refine ks_getf (T := TX16) (kf := 66) kx_2434 rfl in_X16 cl_X16 (by decide) hO rfl dX16_act_113 rfl ?_
                  refine ks_aload_n dX16_act_116 rfl rfl ?_
                  refine ks_getf (T := TX16) (kf := 67) kx_2435 rfl in_X16 cl_X16 (by decide) hO rfl dX16_act_117 rfl ?_
                  refine ks_tv v67 ?_
                  refine ks_iconst (x := nI 1) dX16_act_120 (by decide) rfl ?_
                  refine ks_subN (by omega) dX16_act_121 rfl ?_
                  refine ks_ialdN (i := xs.length - 1) h362 rfl (by omega) (by decide) dX16_act_122 rfl ?_
                  refine ks_i2lN (by omega) dX16_act_123 rfl ?_
                  refine ks_tl (y := iL (((xs.getD 0 []).length : Nat) : Int)) (by rw [l0]; rfl) ?_
                  refine ks_callV (n := 1) (M' := mX16_pushNumber) (c_rs_pushNumber (d := d + 7) hO hK (v := (((xs.getD 0 []).length : Nat) : Int)) (by rw [l0]; omega)) hO cl_X16 rfl kx_2184 kx_2186 kxp_91 kx_30 kx_2187 (by decide +kernel) rfl (by decide) (Nat.le_of_ble_eq_true rfl) rfl dX16_act_124 rfl (fun z4 S4 y4 => ?_)
                  obtain ⟨rfl, hr⟩ := y4
                  refine ks_goto (tgt := 268) dX16_act_127 (by decide) ?_
                  refine ks_ret rfl dX16_act_268 ?_
                  have h130 : op = 130 := by omega
                  subst h130
                  rw [if_neg (by decide), show opE (gdF Gp G9 L b k p m u e inp) (lkB G9 L p e inp) 130 xs ys ops (bytL gc pb (pe - pb)) = (if xs.length = 0 then none else some (numI ((xs.getD 0 []).length : Nat) :: xs, ys)) from rfl, if_neg (by omega), show opB 130 nx pb = pb from rfl, show opO 130 xs ops = ops from rfl]
                  exact ⟨rfl, ((hr.op (by omega) v74).mq hM hT9).A v80 v82⟩
              · obtain rfl := (y3b c0).symm
                rw [decide_eq_false c0]
                refine ks_if_eqZ (tgt := 268) dX16_act_108 (by decide) rfl (fun hc108 => ?_) (fun hc108 => ?_)
                · refine ks_ret rfl dX16_act_268 ?_
                  obtain ⟨e1, e2⟩ := oe_pf (GD := (gdF Gp G9 L b k p m u e inp)) (LK := (lkB G9 L p e inp)) (op := op) (ops := ops) (xs := xs) (ys := ys) (c := bytL gc pb (pe - pb)) (by omega)
                  rw [if_neg (show ¬ op ≤ 78 by omega), e1, e2, show opB op nx pb = pb from if_neg (by omega)]
                  exact ⟨rfl, mqA.bad ((mqJ.rf S V F).put (by decide)) (hM.put hT9 (by decide)) (va_up_self _ _ _) (by
                    have h130 : op = 130 := by omega
                    subst h130
                    show (if xs.length = 0 then none else _) = none
                    rw [if_pos (by omega)])⟩
                · exact absurd hc108 (by decide)
          · refine ks_iload_n dX16_act_76 rfl rfl ?_
            refine ks_bipush (x := nI 125) dX16_act_77 (by decide) rfl ?_
            refine ks_icmp_gtN (tgt := 96) (by omega) (by decide) dX16_act_79 (by decide) rfl (fun hc79 => ?_) (fun hc79 => ?_)
            · refine ks_iload_n dX16_act_96 rfl rfl ?_
              refine ks_sipush (x := nI 130) dX16_act_97 (by decide) rfl ?_
              refine ks_icmp_neN (tgt := 130) (by omega) (by decide) dX16_act_100 (by decide) rfl (fun hc100 => ?_) (fun hc100 => ?_)
              · refine ks_iload_n dX16_act_130 rfl rfl ?_
                refine ks_sipush (x := nI 135) dX16_act_131 (by decide) rfl ?_
                refine ks_icmp_eqN (tgt := 144) (by omega) (by decide) dX16_act_134 (by decide) rfl (fun hc134 => ?_) (fun hc134 => ?_)
                · refine ks_aload_n dX16_act_144 rfl rfl ?_
                  refine ks_iconst (x := nI 2) dX16_act_145 (by decide) rfl ?_
                  refine ks_callV (n := 1) (M' := mX16_need) (c_rs_need (d := d + 9) hO hK (n := 2) (by decide)) hO cl_X16 rfl kx_2165 kx_2167 kxp_87 kx_30 kx_2168 (by decide +kernel) rfl (by decide) (Nat.le_of_ble_eq_true rfl) rfl dX16_act_146 rfl (fun z3 S3 y3 => ?_)
                  obtain ⟨rfl, y3a, y3b⟩ := y3
                  by_cases c0 : 2 ≤ xs.length
                  · obtain rfl := (y3a c0).symm
                    rw [decide_eq_true c0]
                    obtain ⟨T, sz, oz, vz, hK', eF, gS, kS, h367⟩ := id hK
                    obtain ⟨hT, ⟨h362, h364, h366⟩, -, -, hx, -⟩ := id hK'
                    obtain ⟨r1, g1, a1, a2, a3, a4, a5⟩ := hx (xs.length - 1) (by omega)
                    rw [Nat.sub_self] at a5
                    obtain ⟨r2, g2, b1, b2, b3, b4, b5⟩ := hx (xs.length - 2) (by omega)
                    rw [show xs.length - 1 - (xs.length - 2) = 1 by omega] at b5
                    obtain ⟨n1, en1⟩ : ∃ n, n = sz (xs.length - 1) := ⟨_, rfl⟩
                    obtain ⟨n2, en2⟩ : ∃ n, n = sz (xs.length - 2) := ⟨_, rfl⟩
                    rw [← en1] at a4 a5
                    rw [← en2] at b4 b5
                    have esm : (xs.getD 0 [] = xs.getD 1 []) ↔ n1 = n2 ∧ ∀ q, q < n1 → g1 (0 + q) = g2 (0 + q) := by rw [a5, b5]; exact bytL_ext
                    refine ks_if_neZ (tgt := 153) dX16_act_149 (by decide) rfl (fun hc149 => ?_) (fun hc149 => ?_)
                    · refine ks_aload_n dX16_act_153 rfl rfl ?_
                      refine ks_getf (T := TX16) (kf := 66) kx_2434 rfl in_X16 cl_X16 (by decide) hO rfl dX16_act_154 rfl ?_
                      refine ks_aload_n dX16_act_157 rfl rfl ?_
                      refine ks_getf (T := TX16) (kf := 67) kx_2435 rfl in_X16 cl_X16 (by decide) hO rfl dX16_act_158 rfl ?_
                      refine ks_tv v67 ?_
                      refine ks_iconst (x := nI 1) dX16_act_161 (by decide) rfl ?_
                      refine ks_subN (by omega) dX16_act_162 rfl ?_
                      refine ks_ialdN (i := xs.length - 1) h362 rfl (by omega) (by decide) dX16_act_163 rfl ?_
                      rw [← en1]
                      refine ks_aload_n dX16_act_164 rfl rfl ?_
                      refine ks_getf (T := TX16) (kf := 66) kx_2434 rfl in_X16 cl_X16 (by decide) hO rfl dX16_act_165 rfl ?_
                      refine ks_aload_n dX16_act_168 rfl rfl ?_
                      refine ks_getf (T := TX16) (kf := 67) kx_2435 rfl in_X16 cl_X16 (by decide) hO rfl dX16_act_169 rfl ?_
                      refine ks_tv v67 ?_
                      refine ks_iconst (x := nI 2) dX16_act_172 (by decide) rfl ?_
                      refine ks_subN (by omega) dX16_act_173 rfl ?_
                      refine ks_ialdN (i := xs.length - 2) h362 rfl (by omega) (by decide) dX16_act_174 rfl ?_
                      rw [← en2]
                      refine ks_icmp_neN (tgt := 223) (by omega) (by omega) dX16_act_175 (by decide) rfl (fun hc175 => ?_) (fun hc175 => ?_)
                      · refine ks_iconst (x := nI 0) dX16_act_223 (by decide) rfl ?_
                        have hs : ¬ xs.getD 0 [] = xs.getD 1 [] := fun h => hc175 (esm.mp h).1
                        obtain ⟨Q8, m8⟩ := rsQ.pop (k := 2) hO hK
                        have M8 := hM.ms hT9 m8 Q8
                        have l8 : (xs.drop 2).length ≤ 1000 := by rw [List.length_drop]; omega
                        refine ks_istore dX16_act_224 (by decide) rfl ?_
                        refine ks_sub [(4, _), (0, _), (1, _), (2, _), (3, _)] rfl ?_
                        refine ks_aload_n dX16_act_226 rfl rfl ?_
                        refine ks_dup dX16_act_227 rfl rfl ?_
                        refine ks_getf (T := TX16) (kf := 67) kx_2435 rfl in_X16 cl_X16 (by decide) hO rfl dX16_act_228 rfl ?_
                        refine ks_tv v67 ?_
                        refine ks_iconst (x := nI 2) dX16_act_231 (by decide) rfl ?_
                        refine ks_subN (by omega) dX16_act_232 rfl ?_
                        refine ks_putf (T := TX16) (kf := 67) kx_2435 rfl in_X16 tyX16_ok nmX16 cl_X16 (by decide) hO (Nat.le_of_ble_eq_true rfl) rfl rfl rfl rfl dX16_act_233 rfl ?_
                        refine md_put mdp_67 ?_
                        refine ks_aload_n dX16_act_236 rfl rfl ?_
                        refine ks_iload dX16_act_237 rfl rfl ?_
                        refine ks_iload_n dX16_act_239 rfl rfl ?_
                        refine ks_sipush (x := nI 136) dX16_act_240 (by decide) rfl ?_
                        refine ks_icmp_neN (tgt := 250) (by omega) (by decide) dX16_act_243 (by decide) rfl (fun h9 => ?_) (fun h9 => ?_)
                        · refine ks_iconst (x := nI 0) dX16_act_250 (by decide) rfl ?_
                          refine ks_callV (n := 2) (M' := mX16_answer) (c_rs_answer (d := d + 5) M8.1 M8.2.1 (b := false) (v := false) l8 ((va_up_ne _ _ (by decide)).trans v74)) (ks_set_same _ _ _) cl_X16 rfl kx_2204 kx_2206 kxp_96 kx_30 kx_2207 (by decide +kernel) rfl (by decide) (Nat.le_of_ble_eq_true rfl) rfl dX16_act_251 rfl (fun z9 S9 y9 => ?_)
                          obtain ⟨rfl, hr⟩ := y9
                          refine ks_goto (tgt := 268) dX16_act_254 (by decide) ?_
                          refine ks_ret rfl dX16_act_268 ?_
                          have hk9 : op = 135 := by omega
                          subst hk9
                          have hc9 : cmS xs ys = some (flagL false :: xs.drop 2, ys) := by
                            unfold cmS
                            rw [if_neg (by omega), decide_eq_false hs]
                          rw [if_neg (by decide), show opB 135 nx pb = pb from rfl, show opO 135 xs ops = ops from rfl]
                          rw [show opE (gdF Gp G9 L b k p m u e inp) (lkB G9 L p e inp) 135 xs ys ops (bytL gc pb (pe - pb)) = cmS xs ys from rfl, hc9]
                          exact ⟨rfl, ((hr.mq M8 hT9).A ((va_up_ne _ _ (by decide)).trans v80) ((va_up_ne _ _ (by decide)).trans v82)).after (mqK.ms m8).j⟩
                        · refine ks_iconst (x := nI 1) dX16_act_246 (by decide) rfl ?_
                          refine ks_goto (tgt := 251) dX16_act_247 (by decide) ?_
                          refine ks_callV (n := 2) (M' := mX16_answer) (c_rs_answer (d := d + 5) M8.1 M8.2.1 (b := false) (v := true) l8 ((va_up_ne _ _ (by decide)).trans v74)) (ks_set_same _ _ _) cl_X16 rfl kx_2204 kx_2206 kxp_96 kx_30 kx_2207 (by decide +kernel) rfl (by decide) (Nat.le_of_ble_eq_true rfl) rfl dX16_act_251 rfl (fun z9 S9 y9 => ?_)
                          obtain ⟨rfl, hr⟩ := y9
                          refine ks_goto (tgt := 268) dX16_act_254 (by decide) ?_
                          refine ks_ret rfl dX16_act_268 ?_
                          have hk9 : op = 136 := by omega
                          subst hk9
                          have hc9 : cmS xs ys = some (flagL false :: xs.drop 2, ys) := by
                            unfold cmS
                            rw [if_neg (by omega), decide_eq_false hs]
                          rw [if_neg (by decide), show opB 136 nx pb = pb from rfl, show opO 136 xs ops = ops from rfl]
                          rw [show opE (gdF Gp G9 L b k p m u e inp) (lkB G9 L p e inp) 136 xs ys ops (bytL gc pb (pe - pb)) = (match cmS xs ys with | some q => vfS q.1 q.2 | none => none) from rfl, hc9]
                          rw [show (match some (flagL false :: xs.drop 2, ys) with | some q => vfS q.1 q.2 | none => none) = vfS (flagL false :: xs.drop 2) ys from rfl, vf_flag]
                          exact ⟨rfl, ((hr.mq M8 hT9).A ((va_up_ne _ _ (by decide)).trans v80) ((va_up_ne _ _ (by decide)).trans v82)).after (mqK.ms m8).j⟩
                      · refine ks_aload_n dX16_act_178 rfl rfl ?_
                        refine ks_getf (T := TX16) (kf := 65) kx_2433 rfl in_X16 cl_X16 (by decide) hO rfl dX16_act_179 rfl ?_
                        refine ks_aload_n dX16_act_182 rfl rfl ?_
                        refine ks_getf (T := TX16) (kf := 67) kx_2435 rfl in_X16 cl_X16 (by decide) hO rfl dX16_act_183 rfl ?_
                        refine ks_tv v67 ?_
                        refine ks_iconst (x := nI 1) dX16_act_186 (by decide) rfl ?_
                        refine ks_subN (by omega) dX16_act_187 rfl ?_
                        refine ks_aaldN (i := xs.length - 1) (b := r1) (by decide) (hT.1 0 (by decide)) rfl (by omega) (by decide) a1 dX16_act_188 rfl ?_
                        refine ks_iconst (x := nI 0) dX16_act_189 (by decide) rfl ?_
                        refine ks_aload_n dX16_act_190 rfl rfl ?_
                        refine ks_getf (T := TX16) (kf := 65) kx_2433 rfl in_X16 cl_X16 (by decide) hO rfl dX16_act_191 rfl ?_
                        refine ks_aload_n dX16_act_194 rfl rfl ?_
                        refine ks_getf (T := TX16) (kf := 67) kx_2435 rfl in_X16 cl_X16 (by decide) hO rfl dX16_act_195 rfl ?_
                        refine ks_tv v67 ?_
                        refine ks_iconst (x := nI 2) dX16_act_198 (by decide) rfl ?_
                        refine ks_subN (by omega) dX16_act_199 rfl ?_
                        refine ks_aaldN (i := xs.length - 2) (b := r2) (by decide) (hT.1 0 (by decide)) rfl (by omega) (by decide) b1 dX16_act_200 rfl ?_
                        refine ks_iconst (x := nI 0) dX16_act_201 (by decide) rfl ?_
                        refine ks_aload_n dX16_act_202 rfl rfl ?_
                        refine ks_getf (T := TX16) (kf := 66) kx_2434 rfl in_X16 cl_X16 (by decide) hO rfl dX16_act_203 rfl ?_
                        refine ks_aload_n dX16_act_206 rfl rfl ?_
                        refine ks_getf (T := TX16) (kf := 67) kx_2435 rfl in_X16 cl_X16 (by decide) hO rfl dX16_act_207 rfl ?_
                        refine ks_tv v67 ?_
                        refine ks_iconst (x := nI 1) dX16_act_210 (by decide) rfl ?_
                        refine ks_subN (by omega) dX16_act_211 rfl ?_
                        refine ks_ialdN (i := xs.length - 1) h362 rfl (by omega) (by decide) dX16_act_212 rfl ?_
                        rw [← en1]
                        refine ks_callS (n := 5) (M' := mX16_alike) (c_md_alike (d := d + 9) a2 a3 b2 b3 (i := 0) (k := 0) (n := n1) (by omega) (by omega) (by decide) (by decide)) kx_2134 kx_2135 kx_30 kx_2136 (by decide +kernel) rfl (by decide) (Nat.le_of_ble_eq_true rfl) rfl dX16_act_213 rfl (fun z5 S5 y5 => ?_)
                        obtain ⟨rfl, hT5⟩ := y5
                        obtain rfl := hT5.symm
                        refine ks_if_eqZ (tgt := 223) dX16_act_216 (by decide) rfl (fun hc216 => ?_) (fun hc216 => ?_)
                        · refine ks_iconst (x := nI 0) dX16_act_223 (by decide) rfl ?_
                          have hs : ¬ xs.getD 0 [] = xs.getD 1 [] := fun h => absurd (decide_eq_true (esm.mp h).2) (by rw [hc216]; decide)
                          obtain ⟨Q8, m8⟩ := rsQ.pop (k := 2) hO hK
                          have M8 := hM.ms hT9 m8 Q8
                          have l8 : (xs.drop 2).length ≤ 1000 := by rw [List.length_drop]; omega
                          refine ks_istore dX16_act_224 (by decide) rfl ?_
                          refine ks_sub [(4, _), (0, _), (1, _), (2, _), (3, _)] rfl ?_
                          refine ks_aload_n dX16_act_226 rfl rfl ?_
                          refine ks_dup dX16_act_227 rfl rfl ?_
                          refine ks_getf (T := TX16) (kf := 67) kx_2435 rfl in_X16 cl_X16 (by decide) hO rfl dX16_act_228 rfl ?_
                          refine ks_tv v67 ?_
                          refine ks_iconst (x := nI 2) dX16_act_231 (by decide) rfl ?_
                          refine ks_subN (by omega) dX16_act_232 rfl ?_
                          refine ks_putf (T := TX16) (kf := 67) kx_2435 rfl in_X16 tyX16_ok nmX16 cl_X16 (by decide) hO (Nat.le_of_ble_eq_true rfl) rfl rfl rfl rfl dX16_act_233 rfl ?_
                          refine md_put mdp_67 ?_
                          refine ks_aload_n dX16_act_236 rfl rfl ?_
                          refine ks_iload dX16_act_237 rfl rfl ?_
                          refine ks_iload_n dX16_act_239 rfl rfl ?_
                          refine ks_sipush (x := nI 136) dX16_act_240 (by decide) rfl ?_
                          refine ks_icmp_neN (tgt := 250) (by omega) (by decide) dX16_act_243 (by decide) rfl (fun h9 => ?_) (fun h9 => ?_)
                          · refine ks_iconst (x := nI 0) dX16_act_250 (by decide) rfl ?_
                            refine ks_callV (n := 2) (M' := mX16_answer) (c_rs_answer (d := d + 5) M8.1 M8.2.1 (b := false) (v := false) l8 ((va_up_ne _ _ (by decide)).trans v74)) (ks_set_same _ _ _) cl_X16 rfl kx_2204 kx_2206 kxp_96 kx_30 kx_2207 (by decide +kernel) rfl (by decide) (Nat.le_of_ble_eq_true rfl) rfl dX16_act_251 rfl (fun z9 S9 y9 => ?_)
                            obtain ⟨rfl, hr⟩ := y9
                            refine ks_goto (tgt := 268) dX16_act_254 (by decide) ?_
                            refine ks_ret rfl dX16_act_268 ?_
                            have hk9 : op = 135 := by omega
                            subst hk9
                            have hc9 : cmS xs ys = some (flagL false :: xs.drop 2, ys) := by
                              unfold cmS
                              rw [if_neg (by omega), decide_eq_false hs]
                            rw [if_neg (by decide), show opB 135 nx pb = pb from rfl, show opO 135 xs ops = ops from rfl]
                            rw [show opE (gdF Gp G9 L b k p m u e inp) (lkB G9 L p e inp) 135 xs ys ops (bytL gc pb (pe - pb)) = cmS xs ys from rfl, hc9]
                            exact ⟨rfl, ((hr.mq M8 hT9).A ((va_up_ne _ _ (by decide)).trans v80) ((va_up_ne _ _ (by decide)).trans v82)).after (mqK.ms m8).j⟩
                          · refine ks_iconst (x := nI 1) dX16_act_246 (by decide) rfl ?_
                            refine ks_goto (tgt := 251) dX16_act_247 (by decide) ?_
                            refine ks_callV (n := 2) (M' := mX16_answer) (c_rs_answer (d := d + 5) M8.1 M8.2.1 (b := false) (v := true) l8 ((va_up_ne _ _ (by decide)).trans v74)) (ks_set_same _ _ _) cl_X16 rfl kx_2204 kx_2206 kxp_96 kx_30 kx_2207 (by decide +kernel) rfl (by decide) (Nat.le_of_ble_eq_true rfl) rfl dX16_act_251 rfl (fun z9 S9 y9 => ?_)
                            obtain ⟨rfl, hr⟩ := y9
                            refine ks_goto (tgt := 268) dX16_act_254 (by decide) ?_
                            refine ks_ret rfl dX16_act_268 ?_
                            have hk9 : op = 136 := by omega
                            subst hk9
                            have hc9 : cmS xs ys = some (flagL false :: xs.drop 2, ys) := by
                              unfold cmS
                              rw [if_neg (by omega), decide_eq_false hs]
                            rw [if_neg (by decide), show opB 136 nx pb = pb from rfl, show opO 136 xs ops = ops from rfl]
                            rw [show opE (gdF Gp G9 L b k p m u e inp) (lkB G9 L p e inp) 136 xs ys ops (bytL gc pb (pe - pb)) = (match cmS xs ys with | some q => vfS q.1 q.2 | none => none) from rfl, hc9]
                            rw [show (match some (flagL false :: xs.drop 2, ys) with | some q => vfS q.1 q.2 | none => none) = vfS (flagL false :: xs.drop 2) ys from rfl, vf_flag]
                            exact ⟨rfl, ((hr.mq M8 hT9).A ((va_up_ne _ _ (by decide)).trans v80) ((va_up_ne _ _ (by decide)).trans v82)).after (mqK.ms m8).j⟩
                        · refine ks_iconst (x := nI 1) dX16_act_219 (by decide) rfl ?_
                          refine ks_goto (tgt := 224) dX16_act_220 (by decide) ?_
                          have hs : xs.getD 0 [] = xs.getD 1 [] := esm.mpr ⟨by omega, of_decide_eq_true hc216⟩
                          obtain ⟨Q8, m8⟩ := rsQ.pop (k := 2) hO hK
                          have M8 := hM.ms hT9 m8 Q8
                          have l8 : (xs.drop 2).length ≤ 1000 := by rw [List.length_drop]; omega
                          refine ks_istore dX16_act_224 (by decide) rfl ?_
                          refine ks_sub [(4, _), (0, _), (1, _), (2, _), (3, _)] rfl ?_
                          refine ks_aload_n dX16_act_226 rfl rfl ?_
                          refine ks_dup dX16_act_227 rfl rfl ?_
                          refine ks_getf (T := TX16) (kf := 67) kx_2435 rfl in_X16 cl_X16 (by decide) hO rfl dX16_act_228 rfl ?_
                          refine ks_tv v67 ?_
                          refine ks_iconst (x := nI 2) dX16_act_231 (by decide) rfl ?_
                          refine ks_subN (by omega) dX16_act_232 rfl ?_
                          refine ks_putf (T := TX16) (kf := 67) kx_2435 rfl in_X16 tyX16_ok nmX16 cl_X16 (by decide) hO (Nat.le_of_ble_eq_true rfl) rfl rfl rfl rfl dX16_act_233 rfl ?_
                          refine md_put mdp_67 ?_
                          refine ks_aload_n dX16_act_236 rfl rfl ?_
                          refine ks_iload dX16_act_237 rfl rfl ?_
                          refine ks_iload_n dX16_act_239 rfl rfl ?_
                          refine ks_sipush (x := nI 136) dX16_act_240 (by decide) rfl ?_
                          refine ks_icmp_neN (tgt := 250) (by omega) (by decide) dX16_act_243 (by decide) rfl (fun h9 => ?_) (fun h9 => ?_)
                          · refine ks_iconst (x := nI 0) dX16_act_250 (by decide) rfl ?_
                            refine ks_callV (n := 2) (M' := mX16_answer) (c_rs_answer (d := d + 5) M8.1 M8.2.1 (b := true) (v := false) l8 ((va_up_ne _ _ (by decide)).trans v74)) (ks_set_same _ _ _) cl_X16 rfl kx_2204 kx_2206 kxp_96 kx_30 kx_2207 (by decide +kernel) rfl (by decide) (Nat.le_of_ble_eq_true rfl) rfl dX16_act_251 rfl (fun z9 S9 y9 => ?_)
                            obtain ⟨rfl, hr⟩ := y9
                            refine ks_goto (tgt := 268) dX16_act_254 (by decide) ?_
                            refine ks_ret rfl dX16_act_268 ?_
                            have hk9 : op = 135 := by omega
                            subst hk9
                            have hc9 : cmS xs ys = some (flagL true :: xs.drop 2, ys) := by
                              unfold cmS
                              rw [if_neg (by omega), decide_eq_true hs]
                            rw [if_neg (by decide), show opB 135 nx pb = pb from rfl, show opO 135 xs ops = ops from rfl]
                            rw [show opE (gdF Gp G9 L b k p m u e inp) (lkB G9 L p e inp) 135 xs ys ops (bytL gc pb (pe - pb)) = cmS xs ys from rfl, hc9]
                            exact ⟨rfl, ((hr.mq M8 hT9).A ((va_up_ne _ _ (by decide)).trans v80) ((va_up_ne _ _ (by decide)).trans v82)).after (mqK.ms m8).j⟩
                          · refine ks_iconst (x := nI 1) dX16_act_246 (by decide) rfl ?_
                            refine ks_goto (tgt := 251) dX16_act_247 (by decide) ?_
                            refine ks_callV (n := 2) (M' := mX16_answer) (c_rs_answer (d := d + 5) M8.1 M8.2.1 (b := true) (v := true) l8 ((va_up_ne _ _ (by decide)).trans v74)) (ks_set_same _ _ _) cl_X16 rfl kx_2204 kx_2206 kxp_96 kx_30 kx_2207 (by decide +kernel) rfl (by decide) (Nat.le_of_ble_eq_true rfl) rfl dX16_act_251 rfl (fun z9 S9 y9 => ?_)
                            obtain ⟨rfl, hr⟩ := y9
                            refine ks_goto (tgt := 268) dX16_act_254 (by decide) ?_
                            refine ks_ret rfl dX16_act_268 ?_
                            have hk9 : op = 136 := by omega
                            subst hk9
                            have hc9 : cmS xs ys = some (flagL true :: xs.drop 2, ys) := by
                              unfold cmS
                              rw [if_neg (by omega), decide_eq_true hs]
                            rw [if_neg (by decide), show opB 136 nx pb = pb from rfl, show opO 136 xs ops = ops from rfl]
                            rw [show opE (gdF Gp G9 L b k p m u e inp) (lkB G9 L p e inp) 136 xs ys ops (bytL gc pb (pe - pb)) = (match cmS xs ys with | some q => vfS q.1 q.2 | none => none) from rfl, hc9]
                            rw [show (match some (flagL true :: xs.drop 2, ys) with | some q => vfS q.1 q.2 | none => none) = vfS (flagL true :: xs.drop 2) ys from rfl, vf_flag]
                            exact ⟨rfl, ((hr.mq M8 hT9).A ((va_up_ne _ _ (by decide)).trans v80) ((va_up_ne _ _ (by decide)).trans v82)).after (mqK.ms m8).j⟩
                    · exact absurd hc149 (by decide)
                  · obtain rfl := (y3b c0).symm
                    rw [decide_eq_false c0]
                    refine ks_if_neZ (tgt := 153) dX16_act_149 (by decide) rfl (fun hc149 => ?_) (fun hc149 => ?_)
                    · exact absurd hc149 (by decide)
                    · refine ks_ret rfl dX16_act_152 ?_
                      obtain ⟨e1, e2⟩ := oe_pf (GD := (gdF Gp G9 L b k p m u e inp)) (LK := (lkB G9 L p e inp)) (op := op) (ops := ops) (xs := xs) (ys := ys) (c := bytL gc pb (pe - pb)) (by omega)
                      rw [if_neg (show ¬ op ≤ 78 by omega), e1, e2, show opB op nx pb = pb from if_neg (by omega)]
                      exact ⟨rfl, mqA.bad ((mqJ.rf S V F).put (by decide)) (hM.put hT9 (by decide)) (va_up_self _ _ _) (by
                        have hcm : cmS xs ys = none := if_pos (by omega)
                        rcases (show op = 135 ∨ op = 136 by omega) with rfl | rfl
                        · exact hcm
                        · show (match cmS xs ys with | some q => vfS q.1 q.2 | none => none) = none
                          rw [hcm])⟩
                · refine ks_iload_n dX16_act_137 rfl rfl ?_
                  refine ks_sipush (x := nI 136) dX16_act_138 (by decide) rfl ?_
                  refine ks_icmp_neN (tgt := 257) (by omega) (by decide) dX16_act_141 (by decide) rfl (fun hc141 => ?_) (fun hc141 => ?_)
                  · refine ks_iload_n dX16_act_257 rfl rfl ?_
                    refine ks_bipush (x := nI 97) dX16_act_258 (by decide) rfl ?_
                    refine ks_icmp_eqN (tgt := 268) (by omega) (by decide) dX16_act_260 (by decide) rfl (fun hc260 => ?_) (fun hc260 => ?_)
                    · refine ks_ret rfl dX16_act_268 ?_
                      obtain ⟨e1, e2⟩ := oe_pf (GD := (gdF Gp G9 L b k p m u e inp)) (LK := (lkB G9 L p e inp)) (op := op) (ops := ops) (xs := xs) (ys := ys) (c := bytL gc pb (pe - pb)) (by omega)
                      rw [if_neg (show ¬ op ≤ 78 by omega), e1, e2, show opB op nx pb = pb from if_neg (by omega)]
                      have h97 : op = 97 := by omega
                      subst h97
                      exact ⟨rfl, ⟨V, F, xs, ys, mqJ.rf S V F, hM, .inl ⟨v74, rfl, v80, v82⟩⟩⟩
                    · refine ks_aload_n dX16_act_263 rfl rfl ?_
                      refine ks_iconst (x := nI 1) dX16_act_264 (by decide) rfl ?_
                      refine ks_putf (T := TX16) (kf := 74) kx_2442 rfl in_X16 tyX16_ok nmX16 cl_X16 (by decide) hO (Nat.le_of_ble_eq_true rfl) rfl rfl rfl rfl dX16_act_265 rfl ?_
                      refine md_put mdp_74 ?_
                      refine ks_ret rfl dX16_act_268 ?_
                      obtain ⟨e1, e2⟩ := oe_pf (GD := (gdF Gp G9 L b k p m u e inp)) (LK := (lkB G9 L p e inp)) (op := op) (ops := ops) (xs := xs) (ys := ys) (c := bytL gc pb (pe - pb)) (by omega)
                      rw [if_neg (show ¬ op ≤ 78 by omega), e1, e2, show opB op nx pb = pb from if_neg (by omega)]
                      exact ⟨rfl, mqA.bad ((mqJ.rf S V F).put (by decide)) (hM.put hT9 (by decide)) (va_up_self _ _ _) (pf_no (by omega))⟩
                  · refine ks_aload_n dX16_act_144 rfl rfl ?_
                    refine ks_iconst (x := nI 2) dX16_act_145 (by decide) rfl ?_
                    refine ks_callV (n := 1) (M' := mX16_need) (c_rs_need (d := d + 9) hO hK (n := 2) (by decide)) hO cl_X16 rfl kx_2165 kx_2167 kxp_87 kx_30 kx_2168 (by decide +kernel) rfl (by decide) (Nat.le_of_ble_eq_true rfl) rfl dX16_act_146 rfl (fun z3 S3 y3 => ?_)
                    obtain ⟨rfl, y3a, y3b⟩ := y3
                    by_cases c0 : 2 ≤ xs.length
                    · obtain rfl := (y3a c0).symm
                      rw [decide_eq_true c0]
                      obtain ⟨T, sz, oz, vz, hK', eF, gS, kS, h367⟩ := id hK
                      obtain ⟨hT, ⟨h362, h364, h366⟩, -, -, hx, -⟩ := id hK'
                      obtain ⟨r1, g1, a1, a2, a3, a4, a5⟩ := hx (xs.length - 1) (by omega)
                      rw [Nat.sub_self] at a5
                      obtain ⟨r2, g2, b1, b2, b3, b4, b5⟩ := hx (xs.length - 2) (by omega)
                      rw [show xs.length - 1 - (xs.length - 2) = 1 by omega] at b5
                      obtain ⟨n1, en1⟩ : ∃ n, n = sz (xs.length - 1) := ⟨_, rfl⟩
                      obtain ⟨n2, en2⟩ : ∃ n, n = sz (xs.length - 2) := ⟨_, rfl⟩
                      rw [← en1] at a4 a5
                      rw [← en2] at b4 b5
                      have esm : (xs.getD 0 [] = xs.getD 1 []) ↔ n1 = n2 ∧ ∀ q, q < n1 → g1 (0 + q) = g2 (0 + q) := by rw [a5, b5]; exact bytL_ext
                      refine ks_if_neZ (tgt := 153) dX16_act_149 (by decide) rfl (fun hc149 => ?_) (fun hc149 => ?_)
                      · refine ks_aload_n dX16_act_153 rfl rfl ?_
                        refine ks_getf (T := TX16) (kf := 66) kx_2434 rfl in_X16 cl_X16 (by decide) hO rfl dX16_act_154 rfl ?_
                        refine ks_aload_n dX16_act_157 rfl rfl ?_
                        refine ks_getf (T := TX16) (kf := 67) kx_2435 rfl in_X16 cl_X16 (by decide) hO rfl dX16_act_158 rfl ?_
                        refine ks_tv v67 ?_
                        refine ks_iconst (x := nI 1) dX16_act_161 (by decide) rfl ?_
                        refine ks_subN (by omega) dX16_act_162 rfl ?_
                        refine ks_ialdN (i := xs.length - 1) h362 rfl (by omega) (by decide) dX16_act_163 rfl ?_
                        rw [← en1]
                        refine ks_aload_n dX16_act_164 rfl rfl ?_
                        refine ks_getf (T := TX16) (kf := 66) kx_2434 rfl in_X16 cl_X16 (by decide) hO rfl dX16_act_165 rfl ?_
                        refine ks_aload_n dX16_act_168 rfl rfl ?_
                        refine ks_getf (T := TX16) (kf := 67) kx_2435 rfl in_X16 cl_X16 (by decide) hO rfl dX16_act_169 rfl ?_
                        refine ks_tv v67 ?_
                        refine ks_iconst (x := nI 2) dX16_act_172 (by decide) rfl ?_
                        refine ks_subN (by omega) dX16_act_173 rfl ?_
                        refine ks_ialdN (i := xs.length - 2) h362 rfl (by omega) (by decide) dX16_act_174 rfl ?_
                        rw [← en2]
                        refine ks_icmp_neN (tgt := 223) (by omega) (by omega) dX16_act_175 (by decide) rfl (fun hc175 => ?_) (fun hc175 => ?_)
                        · refine ks_iconst (x := nI 0) dX16_act_223 (by decide) rfl ?_
                          have hs : ¬ xs.getD 0 [] = xs.getD 1 [] := fun h => hc175 (esm.mp h).1
                          obtain ⟨Q8, m8⟩ := rsQ.pop (k := 2) hO hK
                          have M8 := hM.ms hT9 m8 Q8
                          have l8 : (xs.drop 2).length ≤ 1000 := by rw [List.length_drop]; omega
                          refine ks_istore dX16_act_224 (by decide) rfl ?_
                          refine ks_sub [(4, _), (0, _), (1, _), (2, _), (3, _)] rfl ?_
                          refine ks_aload_n dX16_act_226 rfl rfl ?_
                          refine ks_dup dX16_act_227 rfl rfl ?_
                          refine ks_getf (T := TX16) (kf := 67) kx_2435 rfl in_X16 cl_X16 (by decide) hO rfl dX16_act_228 rfl ?_
                          refine ks_tv v67 ?_
                          refine ks_iconst (x := nI 2) dX16_act_231 (by decide) rfl ?_
                          refine ks_subN (by omega) dX16_act_232 rfl ?_
                          refine ks_putf (T := TX16) (kf := 67) kx_2435 rfl in_X16 tyX16_ok nmX16 cl_X16 (by decide) hO (Nat.le_of_ble_eq_true rfl) rfl rfl rfl rfl dX16_act_233 rfl ?_
                          refine md_put mdp_67 ?_
                          refine ks_aload_n dX16_act_236 rfl rfl ?_
                          refine ks_iload dX16_act_237 rfl rfl ?_
                          refine ks_iload_n dX16_act_239 rfl rfl ?_
                          refine ks_sipush (x := nI 136) dX16_act_240 (by decide) rfl ?_
                          refine ks_icmp_neN (tgt := 250) (by omega) (by decide) dX16_act_243 (by decide) rfl (fun h9 => ?_) (fun h9 => ?_)
                          · omega
                          · refine ks_iconst (x := nI 1) dX16_act_246 (by decide) rfl ?_
                            refine ks_goto (tgt := 251) dX16_act_247 (by decide) ?_
                            refine ks_callV (n := 2) (M' := mX16_answer) (c_rs_answer (d := d + 5) M8.1 M8.2.1 (b := false) (v := true) l8 ((va_up_ne _ _ (by decide)).trans v74)) (ks_set_same _ _ _) cl_X16 rfl kx_2204 kx_2206 kxp_96 kx_30 kx_2207 (by decide +kernel) rfl (by decide) (Nat.le_of_ble_eq_true rfl) rfl dX16_act_251 rfl (fun z9 S9 y9 => ?_)
                            obtain ⟨rfl, hr⟩ := y9
                            refine ks_goto (tgt := 268) dX16_act_254 (by decide) ?_
                            refine ks_ret rfl dX16_act_268 ?_
                            have hk9 : op = 136 := by omega
                            subst hk9
                            have hc9 : cmS xs ys = some (flagL false :: xs.drop 2, ys) := by
                              unfold cmS
                              rw [if_neg (by omega), decide_eq_false hs]
                            rw [if_neg (by decide), show opB 136 nx pb = pb from rfl, show opO 136 xs ops = ops from rfl]
                            rw [show opE (gdF Gp G9 L b k p m u e inp) (lkB G9 L p e inp) 136 xs ys ops (bytL gc pb (pe - pb)) = (match cmS xs ys with | some q => vfS q.1 q.2 | none => none) from rfl, hc9]
                            rw [show (match some (flagL false :: xs.drop 2, ys) with | some q => vfS q.1 q.2 | none => none) = vfS (flagL false :: xs.drop 2) ys from rfl, vf_flag]
                            exact ⟨rfl, ((hr.mq M8 hT9).A ((va_up_ne _ _ (by decide)).trans v80) ((va_up_ne _ _ (by decide)).trans v82)).after (mqK.ms m8).j⟩
                        · refine ks_aload_n dX16_act_178 rfl rfl ?_
                          refine ks_getf (T := TX16) (kf := 65) kx_2433 rfl in_X16 cl_X16 (by decide) hO rfl dX16_act_179 rfl ?_
                          refine ks_aload_n dX16_act_182 rfl rfl ?_
                          refine ks_getf (T := TX16) (kf := 67) kx_2435 rfl in_X16 cl_X16 (by decide) hO rfl dX16_act_183 rfl ?_
                          refine ks_tv v67 ?_
                          refine ks_iconst (x := nI 1) dX16_act_186 (by decide) rfl ?_
                          refine ks_subN (by omega) dX16_act_187 rfl ?_
                          refine ks_aaldN (i := xs.length - 1) (b := r1) (by decide) (hT.1 0 (by decide)) rfl (by omega) (by decide) a1 dX16_act_188 rfl ?_
                          refine ks_iconst (x := nI 0) dX16_act_189 (by decide) rfl ?_
                          refine ks_aload_n dX16_act_190 rfl rfl ?_
                          refine ks_getf (T := TX16) (kf := 65) kx_2433 rfl in_X16 cl_X16 (by decide) hO rfl dX16_act_191 rfl ?_
                          refine ks_aload_n dX16_act_194 rfl rfl ?_
                          refine ks_getf (T := TX16) (kf := 67) kx_2435 rfl in_X16 cl_X16 (by decide) hO rfl dX16_act_195 rfl ?_
                          refine ks_tv v67 ?_
                          refine ks_iconst (x := nI 2) dX16_act_198 (by decide) rfl ?_
                          refine ks_subN (by omega) dX16_act_199 rfl ?_
                          refine ks_aaldN (i := xs.length - 2) (b := r2) (by decide) (hT.1 0 (by decide)) rfl (by omega) (by decide) b1 dX16_act_200 rfl ?_
                          refine ks_iconst (x := nI 0) dX16_act_201 (by decide) rfl ?_
                          refine ks_aload_n dX16_act_202 rfl rfl ?_
                          refine ks_getf (T := TX16) (kf := 66) kx_2434 rfl in_X16 cl_X16 (by decide) hO rfl dX16_act_203 rfl ?_
                          refine ks_aload_n dX16_act_206 rfl rfl ?_
                          refine ks_getf (T := TX16) (kf := 67) kx_2435 rfl in_X16 cl_X16 (by decide) hO rfl dX16_act_207 rfl ?_
                          refine ks_tv v67 ?_
                          refine ks_iconst (x := nI 1) dX16_act_210 (by decide) rfl ?_
                          refine ks_subN (by omega) dX16_act_211 rfl ?_
                          refine ks_ialdN (i := xs.length - 1) h362 rfl (by omega) (by decide) dX16_act_212 rfl ?_
                          rw [← en1]
                          refine ks_callS (n := 5) (M' := mX16_alike) (c_md_alike (d := d + 9) a2 a3 b2 b3 (i := 0) (k := 0) (n := n1) (by omega) (by omega) (by decide) (by decide)) kx_2134 kx_2135 kx_30 kx_2136 (by decide +kernel) rfl (by decide) (Nat.le_of_ble_eq_true rfl) rfl dX16_act_213 rfl (fun z5 S5 y5 => ?_)
                          obtain ⟨rfl, hT5⟩ := y5
                          obtain rfl := hT5.symm
                          refine ks_if_eqZ (tgt := 223) dX16_act_216 (by decide) rfl (fun hc216 => ?_) (fun hc216 => ?_)
                          · refine ks_iconst (x := nI 0) dX16_act_223 (by decide) rfl ?_
                            have hs : ¬ xs.getD 0 [] = xs.getD 1 [] := fun h => absurd (decide_eq_true (esm.mp h).2) (by rw [hc216]; decide)
                            obtain ⟨Q8, m8⟩ := rsQ.pop (k := 2) hO hK
                            have M8 := hM.ms hT9 m8 Q8
                            have l8 : (xs.drop 2).length ≤ 1000 := by rw [List.length_drop]; omega
                            refine ks_istore dX16_act_224 (by decide) rfl ?_
                            refine ks_sub [(4, _), (0, _), (1, _), (2, _), (3, _)] rfl ?_
                            refine ks_aload_n dX16_act_226 rfl rfl ?_
                            refine ks_dup dX16_act_227 rfl rfl ?_
                            refine ks_getf (T := TX16) (kf := 67) kx_2435 rfl in_X16 cl_X16 (by decide) hO rfl dX16_act_228 rfl ?_
                            refine ks_tv v67 ?_
                            refine ks_iconst (x := nI 2) dX16_act_231 (by decide) rfl ?_
                            refine ks_subN (by omega) dX16_act_232 rfl ?_
                            refine ks_putf (T := TX16) (kf := 67) kx_2435 rfl in_X16 tyX16_ok nmX16 cl_X16 (by decide) hO (Nat.le_of_ble_eq_true rfl) rfl rfl rfl rfl dX16_act_233 rfl ?_
                            refine md_put mdp_67 ?_
                            refine ks_aload_n dX16_act_236 rfl rfl ?_
                            refine ks_iload dX16_act_237 rfl rfl ?_
                            refine ks_iload_n dX16_act_239 rfl rfl ?_
                            refine ks_sipush (x := nI 136) dX16_act_240 (by decide) rfl ?_
                            refine ks_icmp_neN (tgt := 250) (by omega) (by decide) dX16_act_243 (by decide) rfl (fun h9 => ?_) (fun h9 => ?_)
                            · omega
                            · refine ks_iconst (x := nI 1) dX16_act_246 (by decide) rfl ?_
                              refine ks_goto (tgt := 251) dX16_act_247 (by decide) ?_
                              refine ks_callV (n := 2) (M' := mX16_answer) (c_rs_answer (d := d + 5) M8.1 M8.2.1 (b := false) (v := true) l8 ((va_up_ne _ _ (by decide)).trans v74)) (ks_set_same _ _ _) cl_X16 rfl kx_2204 kx_2206 kxp_96 kx_30 kx_2207 (by decide +kernel) rfl (by decide) (Nat.le_of_ble_eq_true rfl) rfl dX16_act_251 rfl (fun z9 S9 y9 => ?_)
                              obtain ⟨rfl, hr⟩ := y9
                              refine ks_goto (tgt := 268) dX16_act_254 (by decide) ?_
                              refine ks_ret rfl dX16_act_268 ?_
                              have hk9 : op = 136 := by omega
                              subst hk9
                              have hc9 : cmS xs ys = some (flagL false :: xs.drop 2, ys) := by
                                unfold cmS
                                rw [if_neg (by omega), decide_eq_false hs]
                              rw [if_neg (by decide), show opB 136 nx pb = pb from rfl, show opO 136 xs ops = ops from rfl]
                              rw [show opE (gdF Gp G9 L b k p m u e inp) (lkB G9 L p e inp) 136 xs ys ops (bytL gc pb (pe - pb)) = (match cmS xs ys with | some q => vfS q.1 q.2 | none => none) from rfl, hc9]
                              rw [show (match some (flagL false :: xs.drop 2, ys) with | some q => vfS q.1 q.2 | none => none) = vfS (flagL false :: xs.drop 2) ys from rfl, vf_flag]
                              exact ⟨rfl, ((hr.mq M8 hT9).A ((va_up_ne _ _ (by decide)).trans v80) ((va_up_ne _ _ (by decide)).trans v82)).after (mqK.ms m8).j⟩
                          · refine ks_iconst (x := nI 1) dX16_act_219 (by decide) rfl ?_
                            refine ks_goto (tgt := 224) dX16_act_220 (by decide) ?_
                            have hs : xs.getD 0 [] = xs.getD 1 [] := esm.mpr ⟨by omega, of_decide_eq_true hc216⟩
                            obtain ⟨Q8, m8⟩ := rsQ.pop (k := 2) hO hK
                            have M8 := hM.ms hT9 m8 Q8
                            have l8 : (xs.drop 2).length ≤ 1000 := by rw [List.length_drop]; omega
                            refine ks_istore dX16_act_224 (by decide) rfl ?_
                            refine ks_sub [(4, _), (0, _), (1, _), (2, _), (3, _)] rfl ?_
                            refine ks_aload_n dX16_act_226 rfl rfl ?_
                            refine ks_dup dX16_act_227 rfl rfl ?_
                            refine ks_getf (T := TX16) (kf := 67) kx_2435 rfl in_X16 cl_X16 (by decide) hO rfl dX16_act_228 rfl ?_
                            refine ks_tv v67 ?_
                            refine ks_iconst (x := nI 2) dX16_act_231 (by decide) rfl ?_
                            refine ks_subN (by omega) dX16_act_232 rfl ?_
                            refine ks_putf (T := TX16) (kf := 67) kx_2435 rfl in_X16 tyX16_ok nmX16 cl_X16 (by decide) hO (Nat.le_of_ble_eq_true rfl) rfl rfl rfl rfl dX16_act_233 rfl ?_
                            refine md_put mdp_67 ?_
                            refine ks_aload_n dX16_act_236 rfl rfl ?_
                            refine ks_iload dX16_act_237 rfl rfl ?_
                            refine ks_iload_n dX16_act_239 rfl rfl ?_
                            refine ks_sipush (x := nI 136) dX16_act_240 (by decide) rfl ?_
                            refine ks_icmp_neN (tgt := 250) (by omega) (by decide) dX16_act_243 (by decide) rfl (fun h9 => ?_) (fun h9 => ?_)
                            · omega
                            · refine ks_iconst (x := nI 1) dX16_act_246 (by decide) rfl ?_
                              refine ks_goto (tgt := 251) dX16_act_247 (by decide) ?_
                              refine ks_callV (n := 2) (M' := mX16_answer) (c_rs_answer (d := d + 5) M8.1 M8.2.1 (b := true) (v := true) l8 ((va_up_ne _ _ (by decide)).trans v74)) (ks_set_same _ _ _) cl_X16 rfl kx_2204 kx_2206 kxp_96 kx_30 kx_2207 (by decide +kernel) rfl (by decide) (Nat.le_of_ble_eq_true rfl) rfl dX16_act_251 rfl (fun z9 S9 y9 => ?_)
                              obtain ⟨rfl, hr⟩ := y9
                              refine ks_goto (tgt := 268) dX16_act_254 (by decide) ?_
                              refine ks_ret rfl dX16_act_268 ?_
                              have hk9 : op = 136 := by omega
                              subst hk9
                              have hc9 : cmS xs ys = some (flagL true :: xs.drop 2, ys) := by
                                unfold cmS
                                rw [if_neg (by omega), decide_eq_true hs]
                              rw [if_neg (by decide), show opB 136 nx pb = pb from rfl, show opO 136 xs ops = ops from rfl]
                              rw [show opE (gdF Gp G9 L b k p m u e inp) (lkB G9 L p e inp) 136 xs ys ops (bytL gc pb (pe - pb)) = (match cmS xs ys with | some q => vfS q.1 q.2 | none => none) from rfl, hc9]
                              rw [show (match some (flagL true :: xs.drop 2, ys) with | some q => vfS q.1 q.2 | none => none) = vfS (flagL true :: xs.drop 2) ys from rfl, vf_flag]
                              exact ⟨rfl, ((hr.mq M8 hT9).A ((va_up_ne _ _ (by decide)).trans v80) ((va_up_ne _ _ (by decide)).trans v82)).after (mqK.ms m8).j⟩
                      · exact absurd hc149 (by decide)
                    · obtain rfl := (y3b c0).symm
                      rw [decide_eq_false c0]
                      refine ks_if_neZ (tgt := 153) dX16_act_149 (by decide) rfl (fun hc149 => ?_) (fun hc149 => ?_)
                      · exact absurd hc149 (by decide)
                      · refine ks_ret rfl dX16_act_152 ?_
                        obtain ⟨e1, e2⟩ := oe_pf (GD := (gdF Gp G9 L b k p m u e inp)) (LK := (lkB G9 L p e inp)) (op := op) (ops := ops) (xs := xs) (ys := ys) (c := bytL gc pb (pe - pb)) (by omega)
                        rw [if_neg (show ¬ op ≤ 78 by omega), e1, e2, show opB op nx pb = pb from if_neg (by omega)]
                        exact ⟨rfl, mqA.bad ((mqJ.rf S V F).put (by decide)) (hM.put hT9 (by decide)) (va_up_self _ _ _) (by
                          have hcm : cmS xs ys = none := if_pos (by omega)
                          rcases (show op = 135 ∨ op = 136 by omega) with rfl | rfl
                          · exact hcm
                          · show (match cmS xs ys with | some q => vfS q.1 q.2 | none => none) = none
                            rw [hcm])⟩
              · refine ks_aload_n dX16_act_103 rfl rfl ?_
                refine ks_iconst (x := nI 1) dX16_act_104 (by decide) rfl ?_
                refine ks_callV (n := 1) (M' := mX16_need) (c_rs_need (d := d + 9) hO hK (n := 1) (by decide)) hO cl_X16 rfl kx_2165 kx_2167 kxp_87 kx_30 kx_2168 (by decide +kernel) rfl (by decide) (Nat.le_of_ble_eq_true rfl) rfl dX16_act_105 rfl (fun z3 S3 y3 => ?_)
                obtain ⟨rfl, y3a, y3b⟩ := y3
                by_cases c0 : 1 ≤ xs.length
                · obtain rfl := (y3a c0).symm
                  rw [decide_eq_true c0]
                  obtain ⟨T, sz, oz, vz, hK', eF, gS, kS, h367⟩ := id hK
                  obtain ⟨hT, ⟨h362, h364, h366⟩, -, -, hx, -⟩ := id hK'
                  obtain ⟨r1, g1, a1, a2, a3, a4, a5⟩ := hx (xs.length - 1) (by omega)
                  rw [Nat.sub_self] at a5
                  have l0 : (xs.getD 0 []).length = sz (xs.length - 1) := by rw [a5, bytL_len]
                  refine ks_if_eqZ (tgt := 268) dX16_act_108 (by decide) rfl (fun hc108 => ?_) (fun hc108 => ?_)
                  · exact absurd hc108 (by decide)
                  · refine ks_aload_n dX16_act_111 rfl rfl ?_
                    refine ks_aload_n dX16_act_112 rfl rfl ?_
                    refine ks_getf (T := TX16) (kf := 66) kx_2434 rfl in_X16 cl_X16 (by decide) hO rfl dX16_act_113 rfl ?_
                    refine ks_aload_n dX16_act_116 rfl rfl ?_
                    refine ks_getf (T := TX16) (kf := 67) kx_2435 rfl in_X16 cl_X16 (by decide) hO rfl dX16_act_117 rfl ?_
                    refine ks_tv v67 ?_
                    refine ks_iconst (x := nI 1) dX16_act_120 (by decide) rfl ?_
                    refine ks_subN (by omega) dX16_act_121 rfl ?_
                    refine ks_ialdN (i := xs.length - 1) h362 rfl (by omega) (by decide) dX16_act_122 rfl ?_
                    refine ks_i2lN (by omega) dX16_act_123 rfl ?_
                    refine ks_tl (y := iL (((xs.getD 0 []).length : Nat) : Int)) (by rw [l0]; rfl) ?_
                    refine ks_callV (n := 1) (M' := mX16_pushNumber) (c_rs_pushNumber (d := d + 7) hO hK (v := (((xs.getD 0 []).length : Nat) : Int)) (by rw [l0]; omega)) hO cl_X16 rfl kx_2184 kx_2186 kxp_91 kx_30 kx_2187 (by decide +kernel) rfl (by decide) (Nat.le_of_ble_eq_true rfl) rfl dX16_act_124 rfl (fun z4 S4 y4 => ?_)
                    obtain ⟨rfl, hr⟩ := y4
                    refine ks_goto (tgt := 268) dX16_act_127 (by decide) ?_
                    refine ks_ret rfl dX16_act_268 ?_
                    have h130 : op = 130 := by omega
                    subst h130
                    rw [if_neg (by decide), show opE (gdF Gp G9 L b k p m u e inp) (lkB G9 L p e inp) 130 xs ys ops (bytL gc pb (pe - pb)) = (if xs.length = 0 then none else some (numI ((xs.getD 0 []).length : Nat) :: xs, ys)) from rfl, if_neg (by omega), show opB 130 nx pb = pb from rfl, show opO 130 xs ops = ops from rfl]
                    exact ⟨rfl, ((hr.op (by omega) v74).mq hM hT9).A v80 v82⟩
                · obtain rfl := (y3b c0).symm
                  rw [decide_eq_false c0]
                  refine ks_if_eqZ (tgt := 268) dX16_act_108 (by decide) rfl (fun hc108 => ?_) (fun hc108 => ?_)
                  · refine ks_ret rfl dX16_act_268 ?_
                    obtain ⟨e1, e2⟩ := oe_pf (GD := (gdF Gp G9 L b k p m u e inp)) (LK := (lkB G9 L p e inp)) (op := op) (ops := ops) (xs := xs) (ys := ys) (c := bytL gc pb (pe - pb)) (by omega)
                    rw [if_neg (show ¬ op ≤ 78 by omega), e1, e2, show opB op nx pb = pb from if_neg (by omega)]
                    exact ⟨rfl, mqA.bad ((mqJ.rf S V F).put (by decide)) (hM.put hT9 (by decide)) (va_up_self _ _ _) (by
                      have h130 : op = 130 := by omega
                      subst h130
                      show (if xs.length = 0 then none else _) = none
                      rw [if_pos (by omega)])⟩
                  · exact absurd hc108 (by decide)
            · refine ks_iload_n dX16_act_82 rfl rfl ?_
              refine ks_bipush (x := nI 106) dX16_act_83 (by decide) rfl ?_
              refine ks_icmp_eqN (tgt := 96) (by omega) (by decide) dX16_act_85 (by decide) rfl (fun hc85 => ?_) (fun hc85 => ?_)
              · refine ks_iload_n dX16_act_96 rfl rfl ?_
                refine ks_sipush (x := nI 130) dX16_act_97 (by decide) rfl ?_
                refine ks_icmp_neN (tgt := 130) (by omega) (by decide) dX16_act_100 (by decide) rfl (fun hc100 => ?_) (fun hc100 => ?_)
                · refine ks_iload_n dX16_act_130 rfl rfl ?_
                  refine ks_sipush (x := nI 135) dX16_act_131 (by decide) rfl ?_
                  refine ks_icmp_eqN (tgt := 144) (by omega) (by decide) dX16_act_134 (by decide) rfl (fun hc134 => ?_) (fun hc134 => ?_)
                  · refine ks_aload_n dX16_act_144 rfl rfl ?_
                    refine ks_iconst (x := nI 2) dX16_act_145 (by decide) rfl ?_
                    refine ks_callV (n := 1) (M' := mX16_need) (c_rs_need (d := d + 9) hO hK (n := 2) (by decide)) hO cl_X16 rfl kx_2165 kx_2167 kxp_87 kx_30 kx_2168 (by decide +kernel) rfl (by decide) (Nat.le_of_ble_eq_true rfl) rfl dX16_act_146 rfl (fun z3 S3 y3 => ?_)
                    obtain ⟨rfl, y3a, y3b⟩ := y3
                    by_cases c0 : 2 ≤ xs.length
                    · obtain rfl := (y3a c0).symm
                      rw [decide_eq_true c0]
                      obtain ⟨T, sz, oz, vz, hK', eF, gS, kS, h367⟩ := id hK
                      obtain ⟨hT, ⟨h362, h364, h366⟩, -, -, hx, -⟩ := id hK'
                      obtain ⟨r1, g1, a1, a2, a3, a4, a5⟩ := hx (xs.length - 1) (by omega)
                      rw [Nat.sub_self] at a5
                      obtain ⟨r2, g2, b1, b2, b3, b4, b5⟩ := hx (xs.length - 2) (by omega)
                      rw [show xs.length - 1 - (xs.length - 2) = 1 by omega] at b5
                      obtain ⟨n1, en1⟩ : ∃ n, n = sz (xs.length - 1) := ⟨_, rfl⟩
                      obtain ⟨n2, en2⟩ : ∃ n, n = sz (xs.length - 2) := ⟨_, rfl⟩
                      rw [← en1] at a4 a5
                      rw [← en2] at b4 b5
                      have esm : (xs.getD 0 [] = xs.getD 1 []) ↔ n1 = n2 ∧ ∀ q, q < n1 → g1 (0 + q) = g2 (0 + q) := by rw [a5, b5]; exact bytL_ext
                      refine ks_if_neZ (tgt := 153) dX16_act_149 (by decide) rfl (fun hc149 => ?_) (fun hc149 => ?_)
                      · refine ks_aload_n dX16_act_153 rfl rfl ?_
                        refine ks_getf (T := TX16) (kf := 66) kx_2434 rfl in_X16 cl_X16 (by decide) hO rfl dX16_act_154 rfl ?_
                        refine ks_aload_n dX16_act_157 rfl rfl ?_
                        refine ks_getf (T := TX16) (kf := 67) kx_2435 rfl in_X16 cl_X16 (by decide) hO rfl dX16_act_158 rfl ?_
                        refine ks_tv v67 ?_
                        refine ks_iconst (x := nI 1) dX16_act_161 (by decide) rfl ?_
                        refine ks_subN (by omega) dX16_act_162 rfl ?_
                        refine ks_ialdN (i := xs.length - 1) h362 rfl (by omega) (by decide) dX16_act_163 rfl ?_
                        rw [← en1]
                        refine ks_aload_n dX16_act_164 rfl rfl ?_
                        refine ks_getf (T := TX16) (kf := 66) kx_2434 rfl in_X16 cl_X16 (by decide) hO rfl dX16_act_165 rfl ?_
                        refine ks_aload_n dX16_act_168 rfl rfl ?_
                        refine ks_getf (T := TX16) (kf := 67) kx_2435 rfl in_X16 cl_X16 (by decide) hO rfl dX16_act_169 rfl ?_
                        refine ks_tv v67 ?_
                        refine ks_iconst (x := nI 2) dX16_act_172 (by decide) rfl ?_
                        refine ks_subN (by omega) dX16_act_173 rfl ?_
                        refine ks_ialdN (i := xs.length - 2) h362 rfl (by omega) (by decide) dX16_act_174 rfl ?_
                        rw [← en2]
                        refine ks_icmp_neN (tgt := 223) (by omega) (by omega) dX16_act_175 (by decide) rfl (fun hc175 => ?_) (fun hc175 => ?_)
                        · refine ks_iconst (x := nI 0) dX16_act_223 (by decide) rfl ?_
                          have hs : ¬ xs.getD 0 [] = xs.getD 1 [] := fun h => hc175 (esm.mp h).1
                          obtain ⟨Q8, m8⟩ := rsQ.pop (k := 2) hO hK
                          have M8 := hM.ms hT9 m8 Q8
                          have l8 : (xs.drop 2).length ≤ 1000 := by rw [List.length_drop]; omega
                          refine ks_istore dX16_act_224 (by decide) rfl ?_
                          refine ks_sub [(4, _), (0, _), (1, _), (2, _), (3, _)] rfl ?_
                          refine ks_aload_n dX16_act_226 rfl rfl ?_
                          refine ks_dup dX16_act_227 rfl rfl ?_
                          refine ks_getf (T := TX16) (kf := 67) kx_2435 rfl in_X16 cl_X16 (by decide) hO rfl dX16_act_228 rfl ?_
                          refine ks_tv v67 ?_
                          refine ks_iconst (x := nI 2) dX16_act_231 (by decide) rfl ?_
                          refine ks_subN (by omega) dX16_act_232 rfl ?_
                          refine ks_putf (T := TX16) (kf := 67) kx_2435 rfl in_X16 tyX16_ok nmX16 cl_X16 (by decide) hO (Nat.le_of_ble_eq_true rfl) rfl rfl rfl rfl dX16_act_233 rfl ?_
                          refine md_put mdp_67 ?_
                          refine ks_aload_n dX16_act_236 rfl rfl ?_
                          refine ks_iload dX16_act_237 rfl rfl ?_
                          refine ks_iload_n dX16_act_239 rfl rfl ?_
                          refine ks_sipush (x := nI 136) dX16_act_240 (by decide) rfl ?_
                          refine ks_icmp_neN (tgt := 250) (by omega) (by decide) dX16_act_243 (by decide) rfl (fun h9 => ?_) (fun h9 => ?_)
                          · refine ks_iconst (x := nI 0) dX16_act_250 (by decide) rfl ?_
                            refine ks_callV (n := 2) (M' := mX16_answer) (c_rs_answer (d := d + 5) M8.1 M8.2.1 (b := false) (v := false) l8 ((va_up_ne _ _ (by decide)).trans v74)) (ks_set_same _ _ _) cl_X16 rfl kx_2204 kx_2206 kxp_96 kx_30 kx_2207 (by decide +kernel) rfl (by decide) (Nat.le_of_ble_eq_true rfl) rfl dX16_act_251 rfl (fun z9 S9 y9 => ?_)
                            obtain ⟨rfl, hr⟩ := y9
                            refine ks_goto (tgt := 268) dX16_act_254 (by decide) ?_
                            refine ks_ret rfl dX16_act_268 ?_
                            have hk9 : op = 135 := by omega
                            subst hk9
                            have hc9 : cmS xs ys = some (flagL false :: xs.drop 2, ys) := by
                              unfold cmS
                              rw [if_neg (by omega), decide_eq_false hs]
                            rw [if_neg (by decide), show opB 135 nx pb = pb from rfl, show opO 135 xs ops = ops from rfl]
                            rw [show opE (gdF Gp G9 L b k p m u e inp) (lkB G9 L p e inp) 135 xs ys ops (bytL gc pb (pe - pb)) = cmS xs ys from rfl, hc9]
                            exact ⟨rfl, ((hr.mq M8 hT9).A ((va_up_ne _ _ (by decide)).trans v80) ((va_up_ne _ _ (by decide)).trans v82)).after (mqK.ms m8).j⟩
                          · refine ks_iconst (x := nI 1) dX16_act_246 (by decide) rfl ?_
                            refine ks_goto (tgt := 251) dX16_act_247 (by decide) ?_
                            refine ks_callV (n := 2) (M' := mX16_answer) (c_rs_answer (d := d + 5) M8.1 M8.2.1 (b := false) (v := true) l8 ((va_up_ne _ _ (by decide)).trans v74)) (ks_set_same _ _ _) cl_X16 rfl kx_2204 kx_2206 kxp_96 kx_30 kx_2207 (by decide +kernel) rfl (by decide) (Nat.le_of_ble_eq_true rfl) rfl dX16_act_251 rfl (fun z9 S9 y9 => ?_)
                            obtain ⟨rfl, hr⟩ := y9
                            refine ks_goto (tgt := 268) dX16_act_254 (by decide) ?_
                            refine ks_ret rfl dX16_act_268 ?_
                            have hk9 : op = 136 := by omega
                            subst hk9
                            have hc9 : cmS xs ys = some (flagL false :: xs.drop 2, ys) := by
                              unfold cmS
                              rw [if_neg (by omega), decide_eq_false hs]
                            rw [if_neg (by decide), show opB 136 nx pb = pb from rfl, show opO 136 xs ops = ops from rfl]
                            rw [show opE (gdF Gp G9 L b k p m u e inp) (lkB G9 L p e inp) 136 xs ys ops (bytL gc pb (pe - pb)) = (match cmS xs ys with | some q => vfS q.1 q.2 | none => none) from rfl, hc9]
                            rw [show (match some (flagL false :: xs.drop 2, ys) with | some q => vfS q.1 q.2 | none => none) = vfS (flagL false :: xs.drop 2) ys from rfl, vf_flag]
                            exact ⟨rfl, ((hr.mq M8 hT9).A ((va_up_ne _ _ (by decide)).trans v80) ((va_up_ne _ _ (by decide)).trans v82)).after (mqK.ms m8).j⟩
                        · refine ks_aload_n dX16_act_178 rfl rfl ?_
                          refine ks_getf (T := TX16) (kf := 65) kx_2433 rfl in_X16 cl_X16 (by decide) hO rfl dX16_act_179 rfl ?_
                          refine ks_aload_n dX16_act_182 rfl rfl ?_
                          refine ks_getf (T := TX16) (kf := 67) kx_2435 rfl in_X16 cl_X16 (by decide) hO rfl dX16_act_183 rfl ?_
                          refine ks_tv v67 ?_
                          refine ks_iconst (x := nI 1) dX16_act_186 (by decide) rfl ?_
                          refine ks_subN (by omega) dX16_act_187 rfl ?_
                          refine ks_aaldN (i := xs.length - 1) (b := r1) (by decide) (hT.1 0 (by decide)) rfl (by omega) (by decide) a1 dX16_act_188 rfl ?_
                          refine ks_iconst (x := nI 0) dX16_act_189 (by decide) rfl ?_
                          refine ks_aload_n dX16_act_190 rfl rfl ?_
                          refine ks_getf (T := TX16) (kf := 65) kx_2433 rfl in_X16 cl_X16 (by decide) hO rfl dX16_act_191 rfl ?_
                          refine ks_aload_n dX16_act_194 rfl rfl ?_
                          refine ks_getf (T := TX16) (kf := 67) kx_2435 rfl in_X16 cl_X16 (by decide) hO rfl dX16_act_195 rfl ?_
                          refine ks_tv v67 ?_
                          refine ks_iconst (x := nI 2) dX16_act_198 (by decide) rfl ?_
                          refine ks_subN (by omega) dX16_act_199 rfl ?_
                          refine ks_aaldN (i := xs.length - 2) (b := r2) (by decide) (hT.1 0 (by decide)) rfl (by omega) (by decide) b1 dX16_act_200 rfl ?_
                          refine ks_iconst (x := nI 0) dX16_act_201 (by decide) rfl ?_
                          refine ks_aload_n dX16_act_202 rfl rfl ?_
                          refine ks_getf (T := TX16) (kf := 66) kx_2434 rfl in_X16 cl_X16 (by decide) hO rfl dX16_act_203 rfl ?_
                          refine ks_aload_n dX16_act_206 rfl rfl ?_
                          refine ks_getf (T := TX16) (kf := 67) kx_2435 rfl in_X16 cl_X16 (by decide) hO rfl dX16_act_207 rfl ?_
                          refine ks_tv v67 ?_
                          refine ks_iconst (x := nI 1) dX16_act_210 (by decide) rfl ?_
                          refine ks_subN (by omega) dX16_act_211 rfl ?_
                          refine ks_ialdN (i := xs.length - 1) h362 rfl (by omega) (by decide) dX16_act_212 rfl ?_
                          rw [← en1]
                          refine ks_callS (n := 5) (M' := mX16_alike) (c_md_alike (d := d + 9) a2 a3 b2 b3 (i := 0) (k := 0) (n := n1) (by omega) (by omega) (by decide) (by decide)) kx_2134 kx_2135 kx_30 kx_2136 (by decide +kernel) rfl (by decide) (Nat.le_of_ble_eq_true rfl) rfl dX16_act_213 rfl (fun z5 S5 y5 => ?_)
                          obtain ⟨rfl, hT5⟩ := y5
                          obtain rfl := hT5.symm
                          refine ks_if_eqZ (tgt := 223) dX16_act_216 (by decide) rfl (fun hc216 => ?_) (fun hc216 => ?_)
                          · refine ks_iconst (x := nI 0) dX16_act_223 (by decide) rfl ?_
                            have hs : ¬ xs.getD 0 [] = xs.getD 1 [] := fun h => absurd (decide_eq_true (esm.mp h).2) (by rw [hc216]; decide)
                            obtain ⟨Q8, m8⟩ := rsQ.pop (k := 2) hO hK
                            have M8 := hM.ms hT9 m8 Q8
                            have l8 : (xs.drop 2).length ≤ 1000 := by rw [List.length_drop]; omega
                            refine ks_istore dX16_act_224 (by decide) rfl ?_
                            refine ks_sub [(4, _), (0, _), (1, _), (2, _), (3, _)] rfl ?_
                            refine ks_aload_n dX16_act_226 rfl rfl ?_
                            refine ks_dup dX16_act_227 rfl rfl ?_
                            refine ks_getf (T := TX16) (kf := 67) kx_2435 rfl in_X16 cl_X16 (by decide) hO rfl dX16_act_228 rfl ?_
                            refine ks_tv v67 ?_
                            refine ks_iconst (x := nI 2) dX16_act_231 (by decide) rfl ?_
                            refine ks_subN (by omega) dX16_act_232 rfl ?_
                            refine ks_putf (T := TX16) (kf := 67) kx_2435 rfl in_X16 tyX16_ok nmX16 cl_X16 (by decide) hO (Nat.le_of_ble_eq_true rfl) rfl rfl rfl rfl dX16_act_233 rfl ?_
                            refine md_put mdp_67 ?_
                            refine ks_aload_n dX16_act_236 rfl rfl ?_
                            refine ks_iload dX16_act_237 rfl rfl ?_
                            refine ks_iload_n dX16_act_239 rfl rfl ?_
                            refine ks_sipush (x := nI 136) dX16_act_240 (by decide) rfl ?_
                            refine ks_icmp_neN (tgt := 250) (by omega) (by decide) dX16_act_243 (by decide) rfl (fun h9 => ?_) (fun h9 => ?_)
                            · refine ks_iconst (x := nI 0) dX16_act_250 (by decide) rfl ?_
                              refine ks_callV (n := 2) (M' := mX16_answer) (c_rs_answer (d := d + 5) M8.1 M8.2.1 (b := false) (v := false) l8 ((va_up_ne _ _ (by decide)).trans v74)) (ks_set_same _ _ _) cl_X16 rfl kx_2204 kx_2206 kxp_96 kx_30 kx_2207 (by decide +kernel) rfl (by decide) (Nat.le_of_ble_eq_true rfl) rfl dX16_act_251 rfl (fun z9 S9 y9 => ?_)
                              obtain ⟨rfl, hr⟩ := y9
                              refine ks_goto (tgt := 268) dX16_act_254 (by decide) ?_
                              refine ks_ret rfl dX16_act_268 ?_
                              have hk9 : op = 135 := by omega
                              subst hk9
                              have hc9 : cmS xs ys = some (flagL false :: xs.drop 2, ys) := by
                                unfold cmS
                                rw [if_neg (by omega), decide_eq_false hs]
                              rw [if_neg (by decide), show opB 135 nx pb = pb from rfl, show opO 135 xs ops = ops from rfl]
                              rw [show opE (gdF Gp G9 L b k p m u e inp) (lkB G9 L p e inp) 135 xs ys ops (bytL gc pb (pe - pb)) = cmS xs ys from rfl, hc9]
                              exact ⟨rfl, ((hr.mq M8 hT9).A ((va_up_ne _ _ (by decide)).trans v80) ((va_up_ne _ _ (by decide)).trans v82)).after (mqK.ms m8).j⟩
                            · refine ks_iconst (x := nI 1) dX16_act_246 (by decide) rfl ?_
                              refine ks_goto (tgt := 251) dX16_act_247 (by decide) ?_
                              refine ks_callV (n := 2) (M' := mX16_answer) (c_rs_answer (d := d + 5) M8.1 M8.2.1 (b := false) (v := true) l8 ((va_up_ne _ _ (by decide)).trans v74)) (ks_set_same _ _ _) cl_X16 rfl kx_2204 kx_2206 kxp_96 kx_30 kx_2207 (by decide +kernel) rfl (by decide) (Nat.le_of_ble_eq_true rfl) rfl dX16_act_251 rfl (fun z9 S9 y9 => ?_)
                              obtain ⟨rfl, hr⟩ := y9
                              refine ks_goto (tgt := 268) dX16_act_254 (by decide) ?_
                              refine ks_ret rfl dX16_act_268 ?_
                              have hk9 : op = 136 := by omega
                              subst hk9
                              have hc9 : cmS xs ys = some (flagL false :: xs.drop 2, ys) := by
                                unfold cmS
                                rw [if_neg (by omega), decide_eq_false hs]
                              rw [if_neg (by decide), show opB 136 nx pb = pb from rfl, show opO 136 xs ops = ops from rfl]
                              rw [show opE (gdF Gp G9 L b k p m u e inp) (lkB G9 L p e inp) 136 xs ys ops (bytL gc pb (pe - pb)) = (match cmS xs ys with | some q => vfS q.1 q.2 | none => none) from rfl, hc9]
                              rw [show (match some (flagL false :: xs.drop 2, ys) with | some q => vfS q.1 q.2 | none => none) = vfS (flagL false :: xs.drop 2) ys from rfl, vf_flag]
                              exact ⟨rfl, ((hr.mq M8 hT9).A ((va_up_ne _ _ (by decide)).trans v80) ((va_up_ne _ _ (by decide)).trans v82)).after (mqK.ms m8).j⟩
                          · refine ks_iconst (x := nI 1) dX16_act_219 (by decide) rfl ?_
                            refine ks_goto (tgt := 224) dX16_act_220 (by decide) ?_
                            have hs : xs.getD 0 [] = xs.getD 1 [] := esm.mpr ⟨by omega, of_decide_eq_true hc216⟩
                            obtain ⟨Q8, m8⟩ := rsQ.pop (k := 2) hO hK
                            have M8 := hM.ms hT9 m8 Q8
                            have l8 : (xs.drop 2).length ≤ 1000 := by rw [List.length_drop]; omega
                            refine ks_istore dX16_act_224 (by decide) rfl ?_
                            refine ks_sub [(4, _), (0, _), (1, _), (2, _), (3, _)] rfl ?_
                            refine ks_aload_n dX16_act_226 rfl rfl ?_
                            refine ks_dup dX16_act_227 rfl rfl ?_
                            refine ks_getf (T := TX16) (kf := 67) kx_2435 rfl in_X16 cl_X16 (by decide) hO rfl dX16_act_228 rfl ?_
                            refine ks_tv v67 ?_
                            refine ks_iconst (x := nI 2) dX16_act_231 (by decide) rfl ?_
                            refine ks_subN (by omega) dX16_act_232 rfl ?_
                            refine ks_putf (T := TX16) (kf := 67) kx_2435 rfl in_X16 tyX16_ok nmX16 cl_X16 (by decide) hO (Nat.le_of_ble_eq_true rfl) rfl rfl rfl rfl dX16_act_233 rfl ?_
                            refine md_put mdp_67 ?_
                            refine ks_aload_n dX16_act_236 rfl rfl ?_
                            refine ks_iload dX16_act_237 rfl rfl ?_
                            refine ks_iload_n dX16_act_239 rfl rfl ?_
                            refine ks_sipush (x := nI 136) dX16_act_240 (by decide) rfl ?_
                            refine ks_icmp_neN (tgt := 250) (by omega) (by decide) dX16_act_243 (by decide) rfl (fun h9 => ?_) (fun h9 => ?_)
                            · refine ks_iconst (x := nI 0) dX16_act_250 (by decide) rfl ?_
                              refine ks_callV (n := 2) (M' := mX16_answer) (c_rs_answer (d := d + 5) M8.1 M8.2.1 (b := true) (v := false) l8 ((va_up_ne _ _ (by decide)).trans v74)) (ks_set_same _ _ _) cl_X16 rfl kx_2204 kx_2206 kxp_96 kx_30 kx_2207 (by decide +kernel) rfl (by decide) (Nat.le_of_ble_eq_true rfl) rfl dX16_act_251 rfl (fun z9 S9 y9 => ?_)
                              obtain ⟨rfl, hr⟩ := y9
                              refine ks_goto (tgt := 268) dX16_act_254 (by decide) ?_
                              refine ks_ret rfl dX16_act_268 ?_
                              have hk9 : op = 135 := by omega
                              subst hk9
                              have hc9 : cmS xs ys = some (flagL true :: xs.drop 2, ys) := by
                                unfold cmS
                                rw [if_neg (by omega), decide_eq_true hs]
                              rw [if_neg (by decide), show opB 135 nx pb = pb from rfl, show opO 135 xs ops = ops from rfl]
                              rw [show opE (gdF Gp G9 L b k p m u e inp) (lkB G9 L p e inp) 135 xs ys ops (bytL gc pb (pe - pb)) = cmS xs ys from rfl, hc9]
                              exact ⟨rfl, ((hr.mq M8 hT9).A ((va_up_ne _ _ (by decide)).trans v80) ((va_up_ne _ _ (by decide)).trans v82)).after (mqK.ms m8).j⟩
                            · refine ks_iconst (x := nI 1) dX16_act_246 (by decide) rfl ?_
                              refine ks_goto (tgt := 251) dX16_act_247 (by decide) ?_
                              refine ks_callV (n := 2) (M' := mX16_answer) (c_rs_answer (d := d + 5) M8.1 M8.2.1 (b := true) (v := true) l8 ((va_up_ne _ _ (by decide)).trans v74)) (ks_set_same _ _ _) cl_X16 rfl kx_2204 kx_2206 kxp_96 kx_30 kx_2207 (by decide +kernel) rfl (by decide) (Nat.le_of_ble_eq_true rfl) rfl dX16_act_251 rfl (fun z9 S9 y9 => ?_)
                              obtain ⟨rfl, hr⟩ := y9
                              refine ks_goto (tgt := 268) dX16_act_254 (by decide) ?_
                              refine ks_ret rfl dX16_act_268 ?_
                              have hk9 : op = 136 := by omega
                              subst hk9
                              have hc9 : cmS xs ys = some (flagL true :: xs.drop 2, ys) := by
                                unfold cmS
                                rw [if_neg (by omega), decide_eq_true hs]
                              rw [if_neg (by decide), show opB 136 nx pb = pb from rfl, show opO 136 xs ops = ops from rfl]
                              rw [show opE (gdF Gp G9 L b k p m u e inp) (lkB G9 L p e inp) 136 xs ys ops (bytL gc pb (pe - pb)) = (match cmS xs ys with | some q => vfS q.1 q.2 | none => none) from rfl, hc9]
                              rw [show (match some (flagL true :: xs.drop 2, ys) with | some q => vfS q.1 q.2 | none => none) = vfS (flagL true :: xs.drop 2) ys from rfl, vf_flag]
                              exact ⟨rfl, ((hr.mq M8 hT9).A ((va_up_ne _ _ (by decide)).trans v80) ((va_up_ne _ _ (by decide)).trans v82)).after (mqK.ms m8).j⟩
                      · exact absurd hc149 (by decide)
                    · obtain rfl := (y3b c0).symm
                      rw [decide_eq_false c0]
                      refine ks_if_neZ (tgt := 153) dX16_act_149 (by decide) rfl (fun hc149 => ?_) (fun hc149 => ?_)
                      · exact absurd hc149 (by decide)
                      · refine ks_ret rfl dX16_act_152 ?_
                        obtain ⟨e1, e2⟩ := oe_pf (GD := (gdF Gp G9 L b k p m u e inp)) (LK := (lkB G9 L p e inp)) (op := op) (ops := ops) (xs := xs) (ys := ys) (c := bytL gc pb (pe - pb)) (by omega)
                        rw [if_neg (show ¬ op ≤ 78 by omega), e1, e2, show opB op nx pb = pb from if_neg (by omega)]
                        exact ⟨rfl, mqA.bad ((mqJ.rf S V F).put (by decide)) (hM.put hT9 (by decide)) (va_up_self _ _ _) (by
                          have hcm : cmS xs ys = none := if_pos (by omega)
                          rcases (show op = 135 ∨ op = 136 by omega) with rfl | rfl
                          · exact hcm
                          · show (match cmS xs ys with | some q => vfS q.1 q.2 | none => none) = none
                            rw [hcm])⟩
                  · refine ks_iload_n dX16_act_137 rfl rfl ?_
                    refine ks_sipush (x := nI 136) dX16_act_138 (by decide) rfl ?_
                    refine ks_icmp_neN (tgt := 257) (by omega) (by decide) dX16_act_141 (by decide) rfl (fun hc141 => ?_) (fun hc141 => ?_)
                    · refine ks_iload_n dX16_act_257 rfl rfl ?_
                      refine ks_bipush (x := nI 97) dX16_act_258 (by decide) rfl ?_
                      refine ks_icmp_eqN (tgt := 268) (by omega) (by decide) dX16_act_260 (by decide) rfl (fun hc260 => ?_) (fun hc260 => ?_)
                      · refine ks_ret rfl dX16_act_268 ?_
                        obtain ⟨e1, e2⟩ := oe_pf (GD := (gdF Gp G9 L b k p m u e inp)) (LK := (lkB G9 L p e inp)) (op := op) (ops := ops) (xs := xs) (ys := ys) (c := bytL gc pb (pe - pb)) (by omega)
                        rw [if_neg (show ¬ op ≤ 78 by omega), e1, e2, show opB op nx pb = pb from if_neg (by omega)]
                        have h97 : op = 97 := by omega
                        subst h97
                        exact ⟨rfl, ⟨V, F, xs, ys, mqJ.rf S V F, hM, .inl ⟨v74, rfl, v80, v82⟩⟩⟩
                      · refine ks_aload_n dX16_act_263 rfl rfl ?_
                        refine ks_iconst (x := nI 1) dX16_act_264 (by decide) rfl ?_
                        refine ks_putf (T := TX16) (kf := 74) kx_2442 rfl in_X16 tyX16_ok nmX16 cl_X16 (by decide) hO (Nat.le_of_ble_eq_true rfl) rfl rfl rfl rfl dX16_act_265 rfl ?_
                        refine md_put mdp_74 ?_
                        refine ks_ret rfl dX16_act_268 ?_
                        obtain ⟨e1, e2⟩ := oe_pf (GD := (gdF Gp G9 L b k p m u e inp)) (LK := (lkB G9 L p e inp)) (op := op) (ops := ops) (xs := xs) (ys := ys) (c := bytL gc pb (pe - pb)) (by omega)
                        rw [if_neg (show ¬ op ≤ 78 by omega), e1, e2, show opB op nx pb = pb from if_neg (by omega)]
                        exact ⟨rfl, mqA.bad ((mqJ.rf S V F).put (by decide)) (hM.put hT9 (by decide)) (va_up_self _ _ _) (pf_no (by omega))⟩
                    · refine ks_aload_n dX16_act_144 rfl rfl ?_
                      refine ks_iconst (x := nI 2) dX16_act_145 (by decide) rfl ?_
                      refine ks_callV (n := 1) (M' := mX16_need) (c_rs_need (d := d + 9) hO hK (n := 2) (by decide)) hO cl_X16 rfl kx_2165 kx_2167 kxp_87 kx_30 kx_2168 (by decide +kernel) rfl (by decide) (Nat.le_of_ble_eq_true rfl) rfl dX16_act_146 rfl (fun z3 S3 y3 => ?_)
                      obtain ⟨rfl, y3a, y3b⟩ := y3
                      by_cases c0 : 2 ≤ xs.length
                      · obtain rfl := (y3a c0).symm
                        rw [decide_eq_true c0]
                        obtain ⟨T, sz, oz, vz, hK', eF, gS, kS, h367⟩ := id hK
                        obtain ⟨hT, ⟨h362, h364, h366⟩, -, -, hx, -⟩ := id hK'
                        obtain ⟨r1, g1, a1, a2, a3, a4, a5⟩ := hx (xs.length - 1) (by omega)
                        rw [Nat.sub_self] at a5
                        obtain ⟨r2, g2, b1, b2, b3, b4, b5⟩ := hx (xs.length - 2) (by omega)
                        rw [show xs.length - 1 - (xs.length - 2) = 1 by omega] at b5
                        obtain ⟨n1, en1⟩ : ∃ n, n = sz (xs.length - 1) := ⟨_, rfl⟩
                        obtain ⟨n2, en2⟩ : ∃ n, n = sz (xs.length - 2) := ⟨_, rfl⟩
                        rw [← en1] at a4 a5
                        rw [← en2] at b4 b5
                        have esm : (xs.getD 0 [] = xs.getD 1 []) ↔ n1 = n2 ∧ ∀ q, q < n1 → g1 (0 + q) = g2 (0 + q) := by rw [a5, b5]; exact bytL_ext
                        refine ks_if_neZ (tgt := 153) dX16_act_149 (by decide) rfl (fun hc149 => ?_) (fun hc149 => ?_)
                        · refine ks_aload_n dX16_act_153 rfl rfl ?_
                          refine ks_getf (T := TX16) (kf := 66) kx_2434 rfl in_X16 cl_X16 (by decide) hO rfl dX16_act_154 rfl ?_
                          refine ks_aload_n dX16_act_157 rfl rfl ?_
                          refine ks_getf (T := TX16) (kf := 67) kx_2435 rfl in_X16 cl_X16 (by decide) hO rfl dX16_act_158 rfl ?_
                          refine ks_tv v67 ?_
                          refine ks_iconst (x := nI 1) dX16_act_161 (by decide) rfl ?_
                          refine ks_subN (by omega) dX16_act_162 rfl ?_
                          refine ks_ialdN (i := xs.length - 1) h362 rfl (by omega) (by decide) dX16_act_163 rfl ?_
                          rw [← en1]
                          refine ks_aload_n dX16_act_164 rfl rfl ?_
                          refine ks_getf (T := TX16) (kf := 66) kx_2434 rfl in_X16 cl_X16 (by decide) hO rfl dX16_act_165 rfl ?_
                          refine ks_aload_n dX16_act_168 rfl rfl ?_
                          refine ks_getf (T := TX16) (kf := 67) kx_2435 rfl in_X16 cl_X16 (by decide) hO rfl dX16_act_169 rfl ?_
                          refine ks_tv v67 ?_
                          refine ks_iconst (x := nI 2) dX16_act_172 (by decide) rfl ?_
                          refine ks_subN (by omega) dX16_act_173 rfl ?_
                          refine ks_ialdN (i := xs.length - 2) h362 rfl (by omega) (by decide) dX16_act_174 rfl ?_
                          rw [← en2]
                          refine ks_icmp_neN (tgt := 223) (by omega) (by omega) dX16_act_175 (by decide) rfl (fun hc175 => ?_) (fun hc175 => ?_)
                          · refine ks_iconst (x := nI 0) dX16_act_223 (by decide) rfl ?_
                            have hs : ¬ xs.getD 0 [] = xs.getD 1 [] := fun h => hc175 (esm.mp h).1
                            obtain ⟨Q8, m8⟩ := rsQ.pop (k := 2) hO hK
                            have M8 := hM.ms hT9 m8 Q8
                            have l8 : (xs.drop 2).length ≤ 1000 := by rw [List.length_drop]; omega
                            refine ks_istore dX16_act_224 (by decide) rfl ?_
                            refine ks_sub [(4, _), (0, _), (1, _), (2, _), (3, _)] rfl ?_
                            refine ks_aload_n dX16_act_226 rfl rfl ?_
                            refine ks_dup dX16_act_227 rfl rfl ?_
                            refine ks_getf (T := TX16) (kf := 67) kx_2435 rfl in_X16 cl_X16 (by decide) hO rfl dX16_act_228 rfl ?_
                            refine ks_tv v67 ?_
                            refine ks_iconst (x := nI 2) dX16_act_231 (by decide) rfl ?_
                            refine ks_subN (by omega) dX16_act_232 rfl ?_
                            refine ks_putf (T := TX16) (kf := 67) kx_2435 rfl in_X16 tyX16_ok nmX16 cl_X16 (by decide) hO (Nat.le_of_ble_eq_true rfl) rfl rfl rfl rfl dX16_act_233 rfl ?_
                            refine md_put mdp_67 ?_
                            refine ks_aload_n dX16_act_236 rfl rfl ?_
                            refine ks_iload dX16_act_237 rfl rfl ?_
                            refine ks_iload_n dX16_act_239 rfl rfl ?_
                            refine ks_sipush (x := nI 136) dX16_act_240 (by decide) rfl ?_
                            refine ks_icmp_neN (tgt := 250) (by omega) (by decide) dX16_act_243 (by decide) rfl (fun h9 => ?_) (fun h9 => ?_)
                            · omega
                            · refine ks_iconst (x := nI 1) dX16_act_246 (by decide) rfl ?_
                              refine ks_goto (tgt := 251) dX16_act_247 (by decide) ?_
                              refine ks_callV (n := 2) (M' := mX16_answer) (c_rs_answer (d := d + 5) M8.1 M8.2.1 (b := false) (v := true) l8 ((va_up_ne _ _ (by decide)).trans v74)) (ks_set_same _ _ _) cl_X16 rfl kx_2204 kx_2206 kxp_96 kx_30 kx_2207 (by decide +kernel) rfl (by decide) (Nat.le_of_ble_eq_true rfl) rfl dX16_act_251 rfl (fun z9 S9 y9 => ?_)
                              obtain ⟨rfl, hr⟩ := y9
                              refine ks_goto (tgt := 268) dX16_act_254 (by decide) ?_
                              refine ks_ret rfl dX16_act_268 ?_
                              have hk9 : op = 136 := by omega
                              subst hk9
                              have hc9 : cmS xs ys = some (flagL false :: xs.drop 2, ys) := by
                                unfold cmS
                                rw [if_neg (by omega), decide_eq_false hs]
                              rw [if_neg (by decide), show opB 136 nx pb = pb from rfl, show opO 136 xs ops = ops from rfl]
                              rw [show opE (gdF Gp G9 L b k p m u e inp) (lkB G9 L p e inp) 136 xs ys ops (bytL gc pb (pe - pb)) = (match cmS xs ys with | some q => vfS q.1 q.2 | none => none) from rfl, hc9]
                              rw [show (match some (flagL false :: xs.drop 2, ys) with | some q => vfS q.1 q.2 | none => none) = vfS (flagL false :: xs.drop 2) ys from rfl, vf_flag]
                              exact ⟨rfl, ((hr.mq M8 hT9).A ((va_up_ne _ _ (by decide)).trans v80) ((va_up_ne _ _ (by decide)).trans v82)).after (mqK.ms m8).j⟩
                          · refine ks_aload_n dX16_act_178 rfl rfl ?_
                            refine ks_getf (T := TX16) (kf := 65) kx_2433 rfl in_X16 cl_X16 (by decide) hO rfl dX16_act_179 rfl ?_
                            refine ks_aload_n dX16_act_182 rfl rfl ?_
                            refine ks_getf (T := TX16) (kf := 67) kx_2435 rfl in_X16 cl_X16 (by decide) hO rfl dX16_act_183 rfl ?_
                            refine ks_tv v67 ?_
                            refine ks_iconst (x := nI 1) dX16_act_186 (by decide) rfl ?_
                            refine ks_subN (by omega) dX16_act_187 rfl ?_
                            refine ks_aaldN (i := xs.length - 1) (b := r1) (by decide) (hT.1 0 (by decide)) rfl (by omega) (by decide) a1 dX16_act_188 rfl ?_
                            refine ks_iconst (x := nI 0) dX16_act_189 (by decide) rfl ?_
                            refine ks_aload_n dX16_act_190 rfl rfl ?_
                            refine ks_getf (T := TX16) (kf := 65) kx_2433 rfl in_X16 cl_X16 (by decide) hO rfl dX16_act_191 rfl ?_
                            refine ks_aload_n dX16_act_194 rfl rfl ?_
                            refine ks_getf (T := TX16) (kf := 67) kx_2435 rfl in_X16 cl_X16 (by decide) hO rfl dX16_act_195 rfl ?_
                            refine ks_tv v67 ?_
                            refine ks_iconst (x := nI 2) dX16_act_198 (by decide) rfl ?_
                            refine ks_subN (by omega) dX16_act_199 rfl ?_
                            refine ks_aaldN (i := xs.length - 2) (b := r2) (by decide) (hT.1 0 (by decide)) rfl (by omega) (by decide) b1 dX16_act_200 rfl ?_
                            refine ks_iconst (x := nI 0) dX16_act_201 (by decide) rfl ?_
                            refine ks_aload_n dX16_act_202 rfl rfl ?_
                            refine ks_getf (T := TX16) (kf := 66) kx_2434 rfl in_X16 cl_X16 (by decide) hO rfl dX16_act_203 rfl ?_
                            refine ks_aload_n dX16_act_206 rfl rfl ?_
                            refine ks_getf (T := TX16) (kf := 67) kx_2435 rfl in_X16 cl_X16 (by decide) hO rfl dX16_act_207 rfl ?_
                            refine ks_tv v67 ?_
                            refine ks_iconst (x := nI 1) dX16_act_210 (by decide) rfl ?_
                            refine ks_subN (by omega) dX16_act_211 rfl ?_
                            refine ks_ialdN (i := xs.length - 1) h362 rfl (by omega) (by decide) dX16_act_212 rfl ?_
                            rw [← en1]
                            refine ks_callS (n := 5) (M' := mX16_alike) (c_md_alike (d := d + 9) a2 a3 b2 b3 (i := 0) (k := 0) (n := n1) (by omega) (by omega) (by decide) (by decide)) kx_2134 kx_2135 kx_30 kx_2136 (by decide +kernel) rfl (by decide) (Nat.le_of_ble_eq_true rfl) rfl dX16_act_213 rfl (fun z5 S5 y5 => ?_)
                            obtain ⟨rfl, hT5⟩ := y5
                            obtain rfl := hT5.symm
                            refine ks_if_eqZ (tgt := 223) dX16_act_216 (by decide) rfl (fun hc216 => ?_) (fun hc216 => ?_)
                            · refine ks_iconst (x := nI 0) dX16_act_223 (by decide) rfl ?_
                              have hs : ¬ xs.getD 0 [] = xs.getD 1 [] := fun h => absurd (decide_eq_true (esm.mp h).2) (by rw [hc216]; decide)
                              obtain ⟨Q8, m8⟩ := rsQ.pop (k := 2) hO hK
                              have M8 := hM.ms hT9 m8 Q8
                              have l8 : (xs.drop 2).length ≤ 1000 := by rw [List.length_drop]; omega
                              refine ks_istore dX16_act_224 (by decide) rfl ?_
                              refine ks_sub [(4, _), (0, _), (1, _), (2, _), (3, _)] rfl ?_
                              refine ks_aload_n dX16_act_226 rfl rfl ?_
                              refine ks_dup dX16_act_227 rfl rfl ?_
                              refine ks_getf (T := TX16) (kf := 67) kx_2435 rfl in_X16 cl_X16 (by decide) hO rfl dX16_act_228 rfl ?_
                              refine ks_tv v67 ?_
                              refine ks_iconst (x := nI 2) dX16_act_231 (by decide) rfl ?_
                              refine ks_subN (by omega) dX16_act_232 rfl ?_
                              refine ks_putf (T := TX16) (kf := 67) kx_2435 rfl in_X16 tyX16_ok nmX16 cl_X16 (by decide) hO (Nat.le_of_ble_eq_true rfl) rfl rfl rfl rfl dX16_act_233 rfl ?_
                              refine md_put mdp_67 ?_
                              refine ks_aload_n dX16_act_236 rfl rfl ?_
                              refine ks_iload dX16_act_237 rfl rfl ?_
                              refine ks_iload_n dX16_act_239 rfl rfl ?_
                              refine ks_sipush (x := nI 136) dX16_act_240 (by decide) rfl ?_
                              refine ks_icmp_neN (tgt := 250) (by omega) (by decide) dX16_act_243 (by decide) rfl (fun h9 => ?_) (fun h9 => ?_)
                              · omega
                              · refine ks_iconst (x := nI 1) dX16_act_246 (by decide) rfl ?_
                                refine ks_goto (tgt := 251) dX16_act_247 (by decide) ?_
                                refine ks_callV (n := 2) (M' := mX16_answer) (c_rs_answer (d := d + 5) M8.1 M8.2.1 (b := false) (v := true) l8 ((va_up_ne _ _ (by decide)).trans v74)) (ks_set_same _ _ _) cl_X16 rfl kx_2204 kx_2206 kxp_96 kx_30 kx_2207 (by decide +kernel) rfl (by decide) (Nat.le_of_ble_eq_true rfl) rfl dX16_act_251 rfl (fun z9 S9 y9 => ?_)
                                obtain ⟨rfl, hr⟩ := y9
                                refine ks_goto (tgt := 268) dX16_act_254 (by decide) ?_
                                refine ks_ret rfl dX16_act_268 ?_
                                have hk9 : op = 136 := by omega
                                subst hk9
                                have hc9 : cmS xs ys = some (flagL false :: xs.drop 2, ys) := by
                                  unfold cmS
                                  rw [if_neg (by omega), decide_eq_false hs]
                                rw [if_neg (by decide), show opB 136 nx pb = pb from rfl, show opO 136 xs ops = ops from rfl]
                                rw [show opE (gdF Gp G9 L b k p m u e inp) (lkB G9 L p e inp) 136 xs ys ops (bytL gc pb (pe - pb)) = (match cmS xs ys with | some q => vfS q.1 q.2 | none => none) from rfl, hc9]
                                rw [show (match some (flagL false :: xs.drop 2, ys) with | some q => vfS q.1 q.2 | none => none) = vfS (flagL false :: xs.drop 2) ys from rfl, vf_flag]
                                exact ⟨rfl, ((hr.mq M8 hT9).A ((va_up_ne _ _ (by decide)).trans v80) ((va_up_ne _ _ (by decide)).trans v82)).after (mqK.ms m8).j⟩
                            · refine ks_iconst (x := nI 1) dX16_act_219 (by decide) rfl ?_
                              refine ks_goto (tgt := 224) dX16_act_220 (by decide) ?_
                              have hs : xs.getD 0 [] = xs.getD 1 [] := esm.mpr ⟨by omega, of_decide_eq_true hc216⟩
                              obtain ⟨Q8, m8⟩ := rsQ.pop (k := 2) hO hK
                              have M8 := hM.ms hT9 m8 Q8
                              have l8 : (xs.drop 2).length ≤ 1000 := by rw [List.length_drop]; omega
                              refine ks_istore dX16_act_224 (by decide) rfl ?_
                              refine ks_sub [(4, _), (0, _), (1, _), (2, _), (3, _)] rfl ?_
                              refine ks_aload_n dX16_act_226 rfl rfl ?_
                              refine ks_dup dX16_act_227 rfl rfl ?_
                              refine ks_getf (T := TX16) (kf := 67) kx_2435 rfl in_X16 cl_X16 (by decide) hO rfl dX16_act_228 rfl ?_
                              refine ks_tv v67 ?_
                              refine ks_iconst (x := nI 2) dX16_act_231 (by decide) rfl ?_
                              refine ks_subN (by omega) dX16_act_232 rfl ?_
                              refine ks_putf (T := TX16) (kf := 67) kx_2435 rfl in_X16 tyX16_ok nmX16 cl_X16 (by decide) hO (Nat.le_of_ble_eq_true rfl) rfl rfl rfl rfl dX16_act_233 rfl ?_
                              refine md_put mdp_67 ?_
                              refine ks_aload_n dX16_act_236 rfl rfl ?_
                              refine ks_iload dX16_act_237 rfl rfl ?_
                              refine ks_iload_n dX16_act_239 rfl rfl ?_
                              refine ks_sipush (x := nI 136) dX16_act_240 (by decide) rfl ?_
                              refine ks_icmp_neN (tgt := 250) (by omega) (by decide) dX16_act_243 (by decide) rfl (fun h9 => ?_) (fun h9 => ?_)
                              · omega
                              · refine ks_iconst (x := nI 1) dX16_act_246 (by decide) rfl ?_
                                refine ks_goto (tgt := 251) dX16_act_247 (by decide) ?_
                                refine ks_callV (n := 2) (M' := mX16_answer) (c_rs_answer (d := d + 5) M8.1 M8.2.1 (b := true) (v := true) l8 ((va_up_ne _ _ (by decide)).trans v74)) (ks_set_same _ _ _) cl_X16 rfl kx_2204 kx_2206 kxp_96 kx_30 kx_2207 (by decide +kernel) rfl (by decide) (Nat.le_of_ble_eq_true rfl) rfl dX16_act_251 rfl (fun z9 S9 y9 => ?_)
                                obtain ⟨rfl, hr⟩ := y9
                                refine ks_goto (tgt := 268) dX16_act_254 (by decide) ?_
                                refine ks_ret rfl dX16_act_268 ?_
                                have hk9 : op = 136 := by omega
                                subst hk9
                                have hc9 : cmS xs ys = some (flagL true :: xs.drop 2, ys) := by
                                  unfold cmS
                                  rw [if_neg (by omega), decide_eq_true hs]
                                rw [if_neg (by decide), show opB 136 nx pb = pb from rfl, show opO 136 xs ops = ops from rfl]
                                rw [show opE (gdF Gp G9 L b k p m u e inp) (lkB G9 L p e inp) 136 xs ys ops (bytL gc pb (pe - pb)) = (match cmS xs ys with | some q => vfS q.1 q.2 | none => none) from rfl, hc9]
                                rw [show (match some (flagL true :: xs.drop 2, ys) with | some q => vfS q.1 q.2 | none => none) = vfS (flagL true :: xs.drop 2) ys from rfl, vf_flag]
                                exact ⟨rfl, ((hr.mq M8 hT9).A ((va_up_ne _ _ (by decide)).trans v80) ((va_up_ne _ _ (by decide)).trans v82)).after (mqK.ms m8).j⟩
                        · exact absurd hc149 (by decide)
                      · obtain rfl := (y3b c0).symm
                        rw [decide_eq_false c0]
                        refine ks_if_neZ (tgt := 153) dX16_act_149 (by decide) rfl (fun hc149 => ?_) (fun hc149 => ?_)
                        · exact absurd hc149 (by decide)
                        · refine ks_ret rfl dX16_act_152 ?_
                          obtain ⟨e1, e2⟩ := oe_pf (GD := (gdF Gp G9 L b k p m u e inp)) (LK := (lkB G9 L p e inp)) (op := op) (ops := ops) (xs := xs) (ys := ys) (c := bytL gc pb (pe - pb)) (by omega)
                          rw [if_neg (show ¬ op ≤ 78 by omega), e1, e2, show opB op nx pb = pb from if_neg (by omega)]
                          exact ⟨rfl, mqA.bad ((mqJ.rf S V F).put (by decide)) (hM.put hT9 (by decide)) (va_up_self _ _ _) (by
                            have hcm : cmS xs ys = none := if_pos (by omega)
                            rcases (show op = 135 ∨ op = 136 by omega) with rfl | rfl
                            · exact hcm
                            · show (match cmS xs ys with | some q => vfS q.1 q.2 | none => none) = none
                              rw [hcm])⟩
                · refine ks_aload_n dX16_act_103 rfl rfl ?_
                  refine ks_iconst (x := nI 1) dX16_act_104 (by decide) rfl ?_
                  refine ks_callV (n := 1) (M' := mX16_need) (c_rs_need (d := d + 9) hO hK (n := 1) (by decide)) hO cl_X16 rfl kx_2165 kx_2167 kxp_87 kx_30 kx_2168 (by decide +kernel) rfl (by decide) (Nat.le_of_ble_eq_true rfl) rfl dX16_act_105 rfl (fun z3 S3 y3 => ?_)
                  obtain ⟨rfl, y3a, y3b⟩ := y3
                  by_cases c0 : 1 ≤ xs.length
                  · obtain rfl := (y3a c0).symm
                    rw [decide_eq_true c0]
                    obtain ⟨T, sz, oz, vz, hK', eF, gS, kS, h367⟩ := id hK
                    obtain ⟨hT, ⟨h362, h364, h366⟩, -, -, hx, -⟩ := id hK'
                    obtain ⟨r1, g1, a1, a2, a3, a4, a5⟩ := hx (xs.length - 1) (by omega)
                    rw [Nat.sub_self] at a5
                    have l0 : (xs.getD 0 []).length = sz (xs.length - 1) := by rw [a5, bytL_len]
                    refine ks_if_eqZ (tgt := 268) dX16_act_108 (by decide) rfl (fun hc108 => ?_) (fun hc108 => ?_)
                    · exact absurd hc108 (by decide)
                    · refine ks_aload_n dX16_act_111 rfl rfl ?_
                      refine ks_aload_n dX16_act_112 rfl rfl ?_
                      refine ks_getf (T := TX16) (kf := 66) kx_2434 rfl in_X16 cl_X16 (by decide) hO rfl dX16_act_113 rfl ?_
                      refine ks_aload_n dX16_act_116 rfl rfl ?_
                      refine ks_getf (T := TX16) (kf := 67) kx_2435 rfl in_X16 cl_X16 (by decide) hO rfl dX16_act_117 rfl ?_
                      refine ks_tv v67 ?_
                      refine ks_iconst (x := nI 1) dX16_act_120 (by decide) rfl ?_
                      refine ks_subN (by omega) dX16_act_121 rfl ?_
                      refine ks_ialdN (i := xs.length - 1) h362 rfl (by omega) (by decide) dX16_act_122 rfl ?_
                      refine ks_i2lN (by omega) dX16_act_123 rfl ?_
                      refine ks_tl (y := iL (((xs.getD 0 []).length : Nat) : Int)) (by rw [l0]; rfl) ?_
                      refine ks_callV (n := 1) (M' := mX16_pushNumber) (c_rs_pushNumber (d := d + 7) hO hK (v := (((xs.getD 0 []).length : Nat) : Int)) (by rw [l0]; omega)) hO cl_X16 rfl kx_2184 kx_2186 kxp_91 kx_30 kx_2187 (by decide +kernel) rfl (by decide) (Nat.le_of_ble_eq_true rfl) rfl dX16_act_124 rfl (fun z4 S4 y4 => ?_)
                      obtain ⟨rfl, hr⟩ := y4
                      refine ks_goto (tgt := 268) dX16_act_127 (by decide) ?_
                      refine ks_ret rfl dX16_act_268 ?_
                      have h130 : op = 130 := by omega
                      subst h130
                      rw [if_neg (by decide), show opE (gdF Gp G9 L b k p m u e inp) (lkB G9 L p e inp) 130 xs ys ops (bytL gc pb (pe - pb)) = (if xs.length = 0 then none else some (numI ((xs.getD 0 []).length : Nat) :: xs, ys)) from rfl, if_neg (by omega), show opB 130 nx pb = pb from rfl, show opO 130 xs ops = ops from rfl]
                      exact ⟨rfl, ((hr.op (by omega) v74).mq hM hT9).A v80 v82⟩
                  · obtain rfl := (y3b c0).symm
                    rw [decide_eq_false c0]
                    refine ks_if_eqZ (tgt := 268) dX16_act_108 (by decide) rfl (fun hc108 => ?_) (fun hc108 => ?_)
                    · refine ks_ret rfl dX16_act_268 ?_
                      obtain ⟨e1, e2⟩ := oe_pf (GD := (gdF Gp G9 L b k p m u e inp)) (LK := (lkB G9 L p e inp)) (op := op) (ops := ops) (xs := xs) (ys := ys) (c := bytL gc pb (pe - pb)) (by omega)
                      rw [if_neg (show ¬ op ≤ 78 by omega), e1, e2, show opB op nx pb = pb from if_neg (by omega)]
                      exact ⟨rfl, mqA.bad ((mqJ.rf S V F).put (by decide)) (hM.put hT9 (by decide)) (va_up_self _ _ _) (by
                        have h130 : op = 130 := by omega
                        subst h130
                        show (if xs.length = 0 then none else _) = none
                        rw [if_pos (by omega)])⟩
                    · exact absurd hc108 (by decide)
              · refine ks_aload_n dX16_act_88 rfl rfl ?_
                refine ks_iload_n dX16_act_89 rfl rfl ?_
                refine ks_callV (n := 1) (M' := mX16_move) (c_rs_move (d := d + 6) hO hK (op := op) (by omega) hl v74 h369) hO cl_X16 rfl kx_2340 kx_2342 kxp_121 kx_30 kx_2343 (by decide +kernel) rfl (by decide) (Nat.le_of_ble_eq_true rfl) rfl dX16_act_90 rfl (fun z1 S1 y1 => ?_)
                obtain ⟨rfl, hr⟩ := y1
                refine ks_goto (tgt := 268) dX16_act_93 (by decide) ?_
                refine ks_ret rfl dX16_act_268 ?_
                obtain ⟨e1, e2⟩ := oe_pf (GD := (gdF Gp G9 L b k p m u e inp)) (LK := (lkB G9 L p e inp)) (op := op) (ops := ops) (xs := xs) (ys := ys) (c := bytL gc pb (pe - pb)) (by omega)
                rw [if_neg (show ¬ op ≤ 78 by omega), e1, e2, show opB op nx pb = pb from if_neg (by omega)]
                rw [pf_mv (by omega)]
                exact ⟨rfl, (hr.mq hM hT9).A v80 v82⟩
        · refine ks_aload_n dX16_act_61 rfl rfl ?_
          refine ks_iload_n dX16_act_62 rfl rfl ?_
          refine ks_iload_n dX16_act_63 rfl rfl ?_
          refine ks_callV (n := 2) (M' := mX16_work_) (c_rs_work (d := d) hM hT9 v79 v80 v81 hcd hck hb9 (nx := nx) hop hnb hl v74 v82 hops (by omega)) hO cl_X16 rfl kx_2188 kx_2190 kxp_92 kx_30 kx_2191 (by decide +kernel) rfl (by decide) (Nat.le_of_ble_eq_true rfl) rfl dX16_act_64 rfl (fun z1 S1 y1 => ?_)
          obtain ⟨rfl, hr⟩ := y1
          refine ks_goto (tgt := 268) dX16_act_67 (by decide) ?_
          refine ks_ret rfl dX16_act_268 ?_
          rw [if_neg (show ¬ op ≤ 78 by omega)]
          exact ⟨rfl, hr⟩
      · refine ks_iload_n dX16_act_36 rfl rfl ?_
        refine ks_bipush (x := nI 96) dX16_act_37 (by decide) rfl ?_
        refine ks_icmp_gtN (tgt := 54) (by omega) (by decide) dX16_act_39 (by decide) rfl (fun hc39 => ?_) (fun hc39 => ?_)
        · refine ks_iload_n dX16_act_54 rfl rfl ?_
          refine ks_sipush (x := nI 139) dX16_act_55 (by decide) rfl ?_
          refine ks_icmp_ltN (tgt := 70) (by omega) (by decide) dX16_act_58 (by decide) rfl (fun hc58 => ?_) (fun hc58 => ?_)
          · refine ks_iload_n dX16_act_70 rfl rfl ?_
            refine ks_bipush (x := nI 105) dX16_act_71 (by decide) rfl ?_
            refine ks_icmp_ltN (tgt := 96) (by omega) (by decide) dX16_act_73 (by decide) rfl (fun hc73 => ?_) (fun hc73 => ?_)
            · refine ks_iload_n dX16_act_96 rfl rfl ?_
              refine ks_sipush (x := nI 130) dX16_act_97 (by decide) rfl ?_
              refine ks_icmp_neN (tgt := 130) (by omega) (by decide) dX16_act_100 (by decide) rfl (fun hc100 => ?_) (fun hc100 => ?_)
              · refine ks_iload_n dX16_act_130 rfl rfl ?_
                refine ks_sipush (x := nI 135) dX16_act_131 (by decide) rfl ?_
                refine ks_icmp_eqN (tgt := 144) (by omega) (by decide) dX16_act_134 (by decide) rfl (fun hc134 => ?_) (fun hc134 => ?_)
                · refine ks_aload_n dX16_act_144 rfl rfl ?_
                  refine ks_iconst (x := nI 2) dX16_act_145 (by decide) rfl ?_
                  refine ks_callV (n := 1) (M' := mX16_need) (c_rs_need (d := d + 9) hO hK (n := 2) (by decide)) hO cl_X16 rfl kx_2165 kx_2167 kxp_87 kx_30 kx_2168 (by decide +kernel) rfl (by decide) (Nat.le_of_ble_eq_true rfl) rfl dX16_act_146 rfl (fun z3 S3 y3 => ?_)
                  obtain ⟨rfl, y3a, y3b⟩ := y3
                  by_cases c0 : 2 ≤ xs.length
                  · obtain rfl := (y3a c0).symm
                    rw [decide_eq_true c0]
                    obtain ⟨T, sz, oz, vz, hK', eF, gS, kS, h367⟩ := id hK
                    obtain ⟨hT, ⟨h362, h364, h366⟩, -, -, hx, -⟩ := id hK'
                    obtain ⟨r1, g1, a1, a2, a3, a4, a5⟩ := hx (xs.length - 1) (by omega)
                    rw [Nat.sub_self] at a5
                    obtain ⟨r2, g2, b1, b2, b3, b4, b5⟩ := hx (xs.length - 2) (by omega)
                    rw [show xs.length - 1 - (xs.length - 2) = 1 by omega] at b5
                    obtain ⟨n1, en1⟩ : ∃ n, n = sz (xs.length - 1) := ⟨_, rfl⟩
                    obtain ⟨n2, en2⟩ : ∃ n, n = sz (xs.length - 2) := ⟨_, rfl⟩
                    rw [← en1] at a4 a5
                    rw [← en2] at b4 b5
                    have esm : (xs.getD 0 [] = xs.getD 1 []) ↔ n1 = n2 ∧ ∀ q, q < n1 → g1 (0 + q) = g2 (0 + q) := by rw [a5, b5]; exact bytL_ext
                    refine ks_if_neZ (tgt := 153) dX16_act_149 (by decide) rfl (fun hc149 => ?_) (fun hc149 => ?_)
                    · refine ks_aload_n dX16_act_153 rfl rfl ?_
                      refine ks_getf (T := TX16) (kf := 66) kx_2434 rfl in_X16 cl_X16 (by decide) hO rfl dX16_act_154 rfl ?_
                      refine ks_aload_n dX16_act_157 rfl rfl ?_
                      refine ks_getf (T := TX16) (kf := 67) kx_2435 rfl in_X16 cl_X16 (by decide) hO rfl dX16_act_158 rfl ?_
                      refine ks_tv v67 ?_
                      refine ks_iconst (x := nI 1) dX16_act_161 (by decide) rfl ?_
                      refine ks_subN (by omega) dX16_act_162 rfl ?_
                      refine ks_ialdN (i := xs.length - 1) h362 rfl (by omega) (by decide) dX16_act_163 rfl ?_
                      rw [← en1]
                      refine ks_aload_n dX16_act_164 rfl rfl ?_
                      refine ks_getf (T := TX16) (kf := 66) kx_2434 rfl in_X16 cl_X16 (by decide) hO rfl dX16_act_165 rfl ?_
                      refine ks_aload_n dX16_act_168 rfl rfl ?_
                      refine ks_getf (T := TX16) (kf := 67) kx_2435 rfl in_X16 cl_X16 (by decide) hO rfl dX16_act_169 rfl ?_
                      refine ks_tv v67 ?_
                      refine ks_iconst (x := nI 2) dX16_act_172 (by decide) rfl ?_
                      refine ks_subN (by omega) dX16_act_173 rfl ?_
                      refine ks_ialdN (i := xs.length - 2) h362 rfl (by omega) (by decide) dX16_act_174 rfl ?_
                      rw [← en2]
                      refine ks_icmp_neN (tgt := 223) (by omega) (by omega) dX16_act_175 (by decide) rfl (fun hc175 => ?_) (fun hc175 => ?_)
                      · refine ks_iconst (x := nI 0) dX16_act_223 (by decide) rfl ?_
                        have hs : ¬ xs.getD 0 [] = xs.getD 1 [] := fun h => hc175 (esm.mp h).1
                        obtain ⟨Q8, m8⟩ := rsQ.pop (k := 2) hO hK
                        have M8 := hM.ms hT9 m8 Q8
                        have l8 : (xs.drop 2).length ≤ 1000 := by rw [List.length_drop]; omega
                        refine ks_istore dX16_act_224 (by decide) rfl ?_
                        refine ks_sub [(4, _), (0, _), (1, _), (2, _), (3, _)] rfl ?_
                        refine ks_aload_n dX16_act_226 rfl rfl ?_
                        refine ks_dup dX16_act_227 rfl rfl ?_
                        refine ks_getf (T := TX16) (kf := 67) kx_2435 rfl in_X16 cl_X16 (by decide) hO rfl dX16_act_228 rfl ?_
                        refine ks_tv v67 ?_
                        refine ks_iconst (x := nI 2) dX16_act_231 (by decide) rfl ?_
                        refine ks_subN (by omega) dX16_act_232 rfl ?_
                        refine ks_putf (T := TX16) (kf := 67) kx_2435 rfl in_X16 tyX16_ok nmX16 cl_X16 (by decide) hO (Nat.le_of_ble_eq_true rfl) rfl rfl rfl rfl dX16_act_233 rfl ?_
                        refine md_put mdp_67 ?_
                        refine ks_aload_n dX16_act_236 rfl rfl ?_
                        refine ks_iload dX16_act_237 rfl rfl ?_
                        refine ks_iload_n dX16_act_239 rfl rfl ?_
                        refine ks_sipush (x := nI 136) dX16_act_240 (by decide) rfl ?_
                        refine ks_icmp_neN (tgt := 250) (by omega) (by decide) dX16_act_243 (by decide) rfl (fun h9 => ?_) (fun h9 => ?_)
                        · refine ks_iconst (x := nI 0) dX16_act_250 (by decide) rfl ?_
                          refine ks_callV (n := 2) (M' := mX16_answer) (c_rs_answer (d := d + 5) M8.1 M8.2.1 (b := false) (v := false) l8 ((va_up_ne _ _ (by decide)).trans v74)) (ks_set_same _ _ _) cl_X16 rfl kx_2204 kx_2206 kxp_96 kx_30 kx_2207 (by decide +kernel) rfl (by decide) (Nat.le_of_ble_eq_true rfl) rfl dX16_act_251 rfl (fun z9 S9 y9 => ?_)
                          obtain ⟨rfl, hr⟩ := y9
                          refine ks_goto (tgt := 268) dX16_act_254 (by decide) ?_
                          refine ks_ret rfl dX16_act_268 ?_
                          have hk9 : op = 135 := by omega
                          subst hk9
                          have hc9 : cmS xs ys = some (flagL false :: xs.drop 2, ys) := by
                            unfold cmS
                            rw [if_neg (by omega), decide_eq_false hs]
                          rw [if_neg (by decide), show opB 135 nx pb = pb from rfl, show opO 135 xs ops = ops from rfl]
                          rw [show opE (gdF Gp G9 L b k p m u e inp) (lkB G9 L p e inp) 135 xs ys ops (bytL gc pb (pe - pb)) = cmS xs ys from rfl, hc9]
                          exact ⟨rfl, ((hr.mq M8 hT9).A ((va_up_ne _ _ (by decide)).trans v80) ((va_up_ne _ _ (by decide)).trans v82)).after (mqK.ms m8).j⟩
                        · refine ks_iconst (x := nI 1) dX16_act_246 (by decide) rfl ?_
                          refine ks_goto (tgt := 251) dX16_act_247 (by decide) ?_
                          refine ks_callV (n := 2) (M' := mX16_answer) (c_rs_answer (d := d + 5) M8.1 M8.2.1 (b := false) (v := true) l8 ((va_up_ne _ _ (by decide)).trans v74)) (ks_set_same _ _ _) cl_X16 rfl kx_2204 kx_2206 kxp_96 kx_30 kx_2207 (by decide +kernel) rfl (by decide) (Nat.le_of_ble_eq_true rfl) rfl dX16_act_251 rfl (fun z9 S9 y9 => ?_)
                          obtain ⟨rfl, hr⟩ := y9
                          refine ks_goto (tgt := 268) dX16_act_254 (by decide) ?_
                          refine ks_ret rfl dX16_act_268 ?_
                          have hk9 : op = 136 := by omega
                          subst hk9
                          have hc9 : cmS xs ys = some (flagL false :: xs.drop 2, ys) := by
                            unfold cmS
                            rw [if_neg (by omega), decide_eq_false hs]
                          rw [if_neg (by decide), show opB 136 nx pb = pb from rfl, show opO 136 xs ops = ops from rfl]
                          rw [show opE (gdF Gp G9 L b k p m u e inp) (lkB G9 L p e inp) 136 xs ys ops (bytL gc pb (pe - pb)) = (match cmS xs ys with | some q => vfS q.1 q.2 | none => none) from rfl, hc9]
                          rw [show (match some (flagL false :: xs.drop 2, ys) with | some q => vfS q.1 q.2 | none => none) = vfS (flagL false :: xs.drop 2) ys from rfl, vf_flag]
                          exact ⟨rfl, ((hr.mq M8 hT9).A ((va_up_ne _ _ (by decide)).trans v80) ((va_up_ne _ _ (by decide)).trans v82)).after (mqK.ms m8).j⟩
                      · refine ks_aload_n dX16_act_178 rfl rfl ?_
                        refine ks_getf (T := TX16) (kf := 65) kx_2433 rfl in_X16 cl_X16 (by decide) hO rfl dX16_act_179 rfl ?_
                        refine ks_aload_n dX16_act_182 rfl rfl ?_
                        refine ks_getf (T := TX16) (kf := 67) kx_2435 rfl in_X16 cl_X16 (by decide) hO rfl dX16_act_183 rfl ?_
                        refine ks_tv v67 ?_
                        refine ks_iconst (x := nI 1) dX16_act_186 (by decide) rfl ?_
                        refine ks_subN (by omega) dX16_act_187 rfl ?_
                        refine ks_aaldN (i := xs.length - 1) (b := r1) (by decide) (hT.1 0 (by decide)) rfl (by omega) (by decide) a1 dX16_act_188 rfl ?_
                        refine ks_iconst (x := nI 0) dX16_act_189 (by decide) rfl ?_
                        refine ks_aload_n dX16_act_190 rfl rfl ?_
                        refine ks_getf (T := TX16) (kf := 65) kx_2433 rfl in_X16 cl_X16 (by decide) hO rfl dX16_act_191 rfl ?_
                        refine ks_aload_n dX16_act_194 rfl rfl ?_
                        refine ks_getf (T := TX16) (kf := 67) kx_2435 rfl in_X16 cl_X16 (by decide) hO rfl dX16_act_195 rfl ?_
                        refine ks_tv v67 ?_
                        refine ks_iconst (x := nI 2) dX16_act_198 (by decide) rfl ?_
                        refine ks_subN (by omega) dX16_act_199 rfl ?_
                        refine ks_aaldN (i := xs.length - 2) (b := r2) (by decide) (hT.1 0 (by decide)) rfl (by omega) (by decide) b1 dX16_act_200 rfl ?_
                        refine ks_iconst (x := nI 0) dX16_act_201 (by decide) rfl ?_
                        refine ks_aload_n dX16_act_202 rfl rfl ?_
                        refine ks_getf (T := TX16) (kf := 66) kx_2434 rfl in_X16 cl_X16 (by decide) hO rfl dX16_act_203 rfl ?_
                        refine ks_aload_n dX16_act_206 rfl rfl ?_
                        refine ks_getf (T := TX16) (kf := 67) kx_2435 rfl in_X16 cl_X16 (by decide) hO rfl dX16_act_207 rfl ?_
                        refine ks_tv v67 ?_
                        refine ks_iconst (x := nI 1) dX16_act_210 (by decide) rfl ?_
                        refine ks_subN (by omega) dX16_act_211 rfl ?_
                        refine ks_ialdN (i := xs.length - 1) h362 rfl (by omega) (by decide) dX16_act_212 rfl ?_
                        rw [← en1]
                        refine ks_callS (n := 5) (M' := mX16_alike) (c_md_alike (d := d + 9) a2 a3 b2 b3 (i := 0) (k := 0) (n := n1) (by omega) (by omega) (by decide) (by decide)) kx_2134 kx_2135 kx_30 kx_2136 (by decide +kernel) rfl (by decide) (Nat.le_of_ble_eq_true rfl) rfl dX16_act_213 rfl (fun z5 S5 y5 => ?_)
                        obtain ⟨rfl, hT5⟩ := y5
                        obtain rfl := hT5.symm
                        refine ks_if_eqZ (tgt := 223) dX16_act_216 (by decide) rfl (fun hc216 => ?_) (fun hc216 => ?_)
                        · refine ks_iconst (x := nI 0) dX16_act_223 (by decide) rfl ?_
                          have hs : ¬ xs.getD 0 [] = xs.getD 1 [] := fun h => absurd (decide_eq_true (esm.mp h).2) (by rw [hc216]; decide)
                          obtain ⟨Q8, m8⟩ := rsQ.pop (k := 2) hO hK
                          have M8 := hM.ms hT9 m8 Q8
                          have l8 : (xs.drop 2).length ≤ 1000 := by rw [List.length_drop]; omega
                          refine ks_istore dX16_act_224 (by decide) rfl ?_
                          refine ks_sub [(4, _), (0, _), (1, _), (2, _), (3, _)] rfl ?_
                          refine ks_aload_n dX16_act_226 rfl rfl ?_
                          refine ks_dup dX16_act_227 rfl rfl ?_
                          refine ks_getf (T := TX16) (kf := 67) kx_2435 rfl in_X16 cl_X16 (by decide) hO rfl dX16_act_228 rfl ?_
                          refine ks_tv v67 ?_
                          refine ks_iconst (x := nI 2) dX16_act_231 (by decide) rfl ?_
                          refine ks_subN (by omega) dX16_act_232 rfl ?_
                          refine ks_putf (T := TX16) (kf := 67) kx_2435 rfl in_X16 tyX16_ok nmX16 cl_X16 (by decide) hO (Nat.le_of_ble_eq_true rfl) rfl rfl rfl rfl dX16_act_233 rfl ?_
                          refine md_put mdp_67 ?_
                          refine ks_aload_n dX16_act_236 rfl rfl ?_
                          refine ks_iload dX16_act_237 rfl rfl ?_
                          refine ks_iload_n dX16_act_239 rfl rfl ?_
                          refine ks_sipush (x := nI 136) dX16_act_240 (by decide) rfl ?_
                          refine ks_icmp_neN (tgt := 250) (by omega) (by decide) dX16_act_243 (by decide) rfl (fun h9 => ?_) (fun h9 => ?_)
                          · refine ks_iconst (x := nI 0) dX16_act_250 (by decide) rfl ?_
                            refine ks_callV (n := 2) (M' := mX16_answer) (c_rs_answer (d := d + 5) M8.1 M8.2.1 (b := false) (v := false) l8 ((va_up_ne _ _ (by decide)).trans v74)) (ks_set_same _ _ _) cl_X16 rfl kx_2204 kx_2206 kxp_96 kx_30 kx_2207 (by decide +kernel) rfl (by decide) (Nat.le_of_ble_eq_true rfl) rfl dX16_act_251 rfl (fun z9 S9 y9 => ?_)
                            obtain ⟨rfl, hr⟩ := y9
                            refine ks_goto (tgt := 268) dX16_act_254 (by decide) ?_
                            refine ks_ret rfl dX16_act_268 ?_
                            have hk9 : op = 135 := by omega
                            subst hk9
                            have hc9 : cmS xs ys = some (flagL false :: xs.drop 2, ys) := by
                              unfold cmS
                              rw [if_neg (by omega), decide_eq_false hs]
                            rw [if_neg (by decide), show opB 135 nx pb = pb from rfl, show opO 135 xs ops = ops from rfl]
                            rw [show opE (gdF Gp G9 L b k p m u e inp) (lkB G9 L p e inp) 135 xs ys ops (bytL gc pb (pe - pb)) = cmS xs ys from rfl, hc9]
                            exact ⟨rfl, ((hr.mq M8 hT9).A ((va_up_ne _ _ (by decide)).trans v80) ((va_up_ne _ _ (by decide)).trans v82)).after (mqK.ms m8).j⟩
                          · refine ks_iconst (x := nI 1) dX16_act_246 (by decide) rfl ?_
                            refine ks_goto (tgt := 251) dX16_act_247 (by decide) ?_
                            refine ks_callV (n := 2) (M' := mX16_answer) (c_rs_answer (d := d + 5) M8.1 M8.2.1 (b := false) (v := true) l8 ((va_up_ne _ _ (by decide)).trans v74)) (ks_set_same _ _ _) cl_X16 rfl kx_2204 kx_2206 kxp_96 kx_30 kx_2207 (by decide +kernel) rfl (by decide) (Nat.le_of_ble_eq_true rfl) rfl dX16_act_251 rfl (fun z9 S9 y9 => ?_)
                            obtain ⟨rfl, hr⟩ := y9
                            refine ks_goto (tgt := 268) dX16_act_254 (by decide) ?_
                            refine ks_ret rfl dX16_act_268 ?_
                            have hk9 : op = 136 := by omega
                            subst hk9
                            have hc9 : cmS xs ys = some (flagL false :: xs.drop 2, ys) := by
                              unfold cmS
                              rw [if_neg (by omega), decide_eq_false hs]
                            rw [if_neg (by decide), show opB 136 nx pb = pb from rfl, show opO 136 xs ops = ops from rfl]
                            rw [show opE (gdF Gp G9 L b k p m u e inp) (lkB G9 L p e inp) 136 xs ys ops (bytL gc pb (pe - pb)) = (match cmS xs ys with | some q => vfS q.1 q.2 | none => none) from rfl, hc9]
                            rw [show (match some (flagL false :: xs.drop 2, ys) with | some q => vfS q.1 q.2 | none => none) = vfS (flagL false :: xs.drop 2) ys from rfl, vf_flag]
                            exact ⟨rfl, ((hr.mq M8 hT9).A ((va_up_ne _ _ (by decide)).trans v80) ((va_up_ne _ _ (by decide)).trans v82)).after (mqK.ms m8).j⟩
                        · refine ks_iconst (x := nI 1) dX16_act_219 (by decide) rfl ?_
                          refine ks_goto (tgt := 224) dX16_act_220 (by decide) ?_
                          have hs : xs.getD 0 [] = xs.getD 1 [] := esm.mpr ⟨by omega, of_decide_eq_true hc216⟩
                          obtain ⟨Q8, m8⟩ := rsQ.pop (k := 2) hO hK
                          have M8 := hM.ms hT9 m8 Q8
                          have l8 : (xs.drop 2).length ≤ 1000 := by rw [List.length_drop]; omega
                          refine ks_istore dX16_act_224 (by decide) rfl ?_
                          refine ks_sub [(4, _), (0, _), (1, _), (2, _), (3, _)] rfl ?_
                          refine ks_aload_n dX16_act_226 rfl rfl ?_
                          refine ks_dup dX16_act_227 rfl rfl ?_
                          refine ks_getf (T := TX16) (kf := 67) kx_2435 rfl in_X16 cl_X16 (by decide) hO rfl dX16_act_228 rfl ?_
                          refine ks_tv v67 ?_
                          refine ks_iconst (x := nI 2) dX16_act_231 (by decide) rfl ?_
                          refine ks_subN (by omega) dX16_act_232 rfl ?_
                          refine ks_putf (T := TX16) (kf := 67) kx_2435 rfl in_X16 tyX16_ok nmX16 cl_X16 (by decide) hO (Nat.le_of_ble_eq_true rfl) rfl rfl rfl rfl dX16_act_233 rfl ?_
                          refine md_put mdp_67 ?_
                          refine ks_aload_n dX16_act_236 rfl rfl ?_
                          refine ks_iload dX16_act_237 rfl rfl ?_
                          refine ks_iload_n dX16_act_239 rfl rfl ?_
                          refine ks_sipush (x := nI 136) dX16_act_240 (by decide) rfl ?_
                          refine ks_icmp_neN (tgt := 250) (by omega) (by decide) dX16_act_243 (by decide) rfl (fun h9 => ?_) (fun h9 => ?_)
                          · refine ks_iconst (x := nI 0) dX16_act_250 (by decide) rfl ?_
                            refine ks_callV (n := 2) (M' := mX16_answer) (c_rs_answer (d := d + 5) M8.1 M8.2.1 (b := true) (v := false) l8 ((va_up_ne _ _ (by decide)).trans v74)) (ks_set_same _ _ _) cl_X16 rfl kx_2204 kx_2206 kxp_96 kx_30 kx_2207 (by decide +kernel) rfl (by decide) (Nat.le_of_ble_eq_true rfl) rfl dX16_act_251 rfl (fun z9 S9 y9 => ?_)
                            obtain ⟨rfl, hr⟩ := y9
                            refine ks_goto (tgt := 268) dX16_act_254 (by decide) ?_
                            refine ks_ret rfl dX16_act_268 ?_
                            have hk9 : op = 135 := by omega
                            subst hk9
                            have hc9 : cmS xs ys = some (flagL true :: xs.drop 2, ys) := by
                              unfold cmS
                              rw [if_neg (by omega), decide_eq_true hs]
                            rw [if_neg (by decide), show opB 135 nx pb = pb from rfl, show opO 135 xs ops = ops from rfl]
                            rw [show opE (gdF Gp G9 L b k p m u e inp) (lkB G9 L p e inp) 135 xs ys ops (bytL gc pb (pe - pb)) = cmS xs ys from rfl, hc9]
                            exact ⟨rfl, ((hr.mq M8 hT9).A ((va_up_ne _ _ (by decide)).trans v80) ((va_up_ne _ _ (by decide)).trans v82)).after (mqK.ms m8).j⟩
                          · refine ks_iconst (x := nI 1) dX16_act_246 (by decide) rfl ?_
                            refine ks_goto (tgt := 251) dX16_act_247 (by decide) ?_
                            refine ks_callV (n := 2) (M' := mX16_answer) (c_rs_answer (d := d + 5) M8.1 M8.2.1 (b := true) (v := true) l8 ((va_up_ne _ _ (by decide)).trans v74)) (ks_set_same _ _ _) cl_X16 rfl kx_2204 kx_2206 kxp_96 kx_30 kx_2207 (by decide +kernel) rfl (by decide) (Nat.le_of_ble_eq_true rfl) rfl dX16_act_251 rfl (fun z9 S9 y9 => ?_)
                            obtain ⟨rfl, hr⟩ := y9
                            refine ks_goto (tgt := 268) dX16_act_254 (by decide) ?_
                            refine ks_ret rfl dX16_act_268 ?_
                            have hk9 : op = 136 := by omega
                            subst hk9
                            have hc9 : cmS xs ys = some (flagL true :: xs.drop 2, ys) := by
                              unfold cmS
                              rw [if_neg (by omega), decide_eq_true hs]
                            rw [if_neg (by decide), show opB 136 nx pb = pb from rfl, show opO 136 xs ops = ops from rfl]
                            rw [show opE (gdF Gp G9 L b k p m u e inp) (lkB G9 L p e inp) 136 xs ys ops (bytL gc pb (pe - pb)) = (match cmS xs ys with | some q => vfS q.1 q.2 | none => none) from rfl, hc9]
                            rw [show (match some (flagL true :: xs.drop 2, ys) with | some q => vfS q.1 q.2 | none => none) = vfS (flagL true :: xs.drop 2) ys from rfl, vf_flag]
                            exact ⟨rfl, ((hr.mq M8 hT9).A ((va_up_ne _ _ (by decide)).trans v80) ((va_up_ne _ _ (by decide)).trans v82)).after (mqK.ms m8).j⟩
                    · exact absurd hc149 (by decide)
                  · obtain rfl := (y3b c0).symm
                    rw [decide_eq_false c0]
                    refine ks_if_neZ (tgt := 153) dX16_act_149 (by decide) rfl (fun hc149 => ?_) (fun hc149 => ?_)
                    · exact absurd hc149 (by decide)
                    · refine ks_ret rfl dX16_act_152 ?_
                      obtain ⟨e1, e2⟩ := oe_pf (GD := (gdF Gp G9 L b k p m u e inp)) (LK := (lkB G9 L p e inp)) (op := op) (ops := ops) (xs := xs) (ys := ys) (c := bytL gc pb (pe - pb)) (by omega)
                      rw [if_neg (show ¬ op ≤ 78 by omega), e1, e2, show opB op nx pb = pb from if_neg (by omega)]
                      exact ⟨rfl, mqA.bad ((mqJ.rf S V F).put (by decide)) (hM.put hT9 (by decide)) (va_up_self _ _ _) (by
                        have hcm : cmS xs ys = none := if_pos (by omega)
                        rcases (show op = 135 ∨ op = 136 by omega) with rfl | rfl
                        · exact hcm
                        · show (match cmS xs ys with | some q => vfS q.1 q.2 | none => none) = none
                          rw [hcm])⟩
                · refine ks_iload_n dX16_act_137 rfl rfl ?_
                  refine ks_sipush (x := nI 136) dX16_act_138 (by decide) rfl ?_
                  refine ks_icmp_neN (tgt := 257) (by omega) (by decide) dX16_act_141 (by decide) rfl (fun hc141 => ?_) (fun hc141 => ?_)
                  · refine ks_iload_n dX16_act_257 rfl rfl ?_
                    refine ks_bipush (x := nI 97) dX16_act_258 (by decide) rfl ?_
                    refine ks_icmp_eqN (tgt := 268) (by omega) (by decide) dX16_act_260 (by decide) rfl (fun hc260 => ?_) (fun hc260 => ?_)
                    · refine ks_ret rfl dX16_act_268 ?_
                      obtain ⟨e1, e2⟩ := oe_pf (GD := (gdF Gp G9 L b k p m u e inp)) (LK := (lkB G9 L p e inp)) (op := op) (ops := ops) (xs := xs) (ys := ys) (c := bytL gc pb (pe - pb)) (by omega)
                      rw [if_neg (show ¬ op ≤ 78 by omega), e1, e2, show opB op nx pb = pb from if_neg (by omega)]
                      have h97 : op = 97 := by omega
                      subst h97
                      exact ⟨rfl, ⟨V, F, xs, ys, mqJ.rf S V F, hM, .inl ⟨v74, rfl, v80, v82⟩⟩⟩
                    · refine ks_aload_n dX16_act_263 rfl rfl ?_
                      refine ks_iconst (x := nI 1) dX16_act_264 (by decide) rfl ?_
                      refine ks_putf (T := TX16) (kf := 74) kx_2442 rfl in_X16 tyX16_ok nmX16 cl_X16 (by decide) hO (Nat.le_of_ble_eq_true rfl) rfl rfl rfl rfl dX16_act_265 rfl ?_
                      refine md_put mdp_74 ?_
                      refine ks_ret rfl dX16_act_268 ?_
                      obtain ⟨e1, e2⟩ := oe_pf (GD := (gdF Gp G9 L b k p m u e inp)) (LK := (lkB G9 L p e inp)) (op := op) (ops := ops) (xs := xs) (ys := ys) (c := bytL gc pb (pe - pb)) (by omega)
                      rw [if_neg (show ¬ op ≤ 78 by omega), e1, e2, show opB op nx pb = pb from if_neg (by omega)]
                      exact ⟨rfl, mqA.bad ((mqJ.rf S V F).put (by decide)) (hM.put hT9 (by decide)) (va_up_self _ _ _) (pf_no (by omega))⟩
                  · refine ks_aload_n dX16_act_144 rfl rfl ?_
                    refine ks_iconst (x := nI 2) dX16_act_145 (by decide) rfl ?_
                    refine ks_callV (n := 1) (M' := mX16_need) (c_rs_need (d := d + 9) hO hK (n := 2) (by decide)) hO cl_X16 rfl kx_2165 kx_2167 kxp_87 kx_30 kx_2168 (by decide +kernel) rfl (by decide) (Nat.le_of_ble_eq_true rfl) rfl dX16_act_146 rfl (fun z3 S3 y3 => ?_)
                    obtain ⟨rfl, y3a, y3b⟩ := y3
                    by_cases c0 : 2 ≤ xs.length
                    · obtain rfl := (y3a c0).symm
                      rw [decide_eq_true c0]
                      obtain ⟨T, sz, oz, vz, hK', eF, gS, kS, h367⟩ := id hK
                      obtain ⟨hT, ⟨h362, h364, h366⟩, -, -, hx, -⟩ := id hK'
                      obtain ⟨r1, g1, a1, a2, a3, a4, a5⟩ := hx (xs.length - 1) (by omega)
                      rw [Nat.sub_self] at a5
                      obtain ⟨r2, g2, b1, b2, b3, b4, b5⟩ := hx (xs.length - 2) (by omega)
                      rw [show xs.length - 1 - (xs.length - 2) = 1 by omega] at b5
                      obtain ⟨n1, en1⟩ : ∃ n, n = sz (xs.length - 1) := ⟨_, rfl⟩
                      obtain ⟨n2, en2⟩ : ∃ n, n = sz (xs.length - 2) := ⟨_, rfl⟩
                      rw [← en1] at a4 a5
                      rw [← en2] at b4 b5
                      have esm : (xs.getD 0 [] = xs.getD 1 []) ↔ n1 = n2 ∧ ∀ q, q < n1 → g1 (0 + q) = g2 (0 + q) := by rw [a5, b5]; exact bytL_ext
                      refine ks_if_neZ (tgt := 153) dX16_act_149 (by decide) rfl (fun hc149 => ?_) (fun hc149 => ?_)
                      · refine ks_aload_n dX16_act_153 rfl rfl ?_
                        refine ks_getf (T := TX16) (kf := 66) kx_2434 rfl in_X16 cl_X16 (by decide) hO rfl dX16_act_154 rfl ?_
                        refine ks_aload_n dX16_act_157 rfl rfl ?_
                        refine ks_getf (T := TX16) (kf := 67) kx_2435 rfl in_X16 cl_X16 (by decide) hO rfl dX16_act_158 rfl ?_
                        refine ks_tv v67 ?_
                        refine ks_iconst (x := nI 1) dX16_act_161 (by decide) rfl ?_
                        refine ks_subN (by omega) dX16_act_162 rfl ?_
                        refine ks_ialdN (i := xs.length - 1) h362 rfl (by omega) (by decide) dX16_act_163 rfl ?_
                        rw [← en1]
                        refine ks_aload_n dX16_act_164 rfl rfl ?_
                        refine ks_getf (T := TX16) (kf := 66) kx_2434 rfl in_X16 cl_X16 (by decide) hO rfl dX16_act_165 rfl ?_
                        refine ks_aload_n dX16_act_168 rfl rfl ?_
                        refine ks_getf (T := TX16) (kf := 67) kx_2435 rfl in_X16 cl_X16 (by decide) hO rfl dX16_act_169 rfl ?_
                        refine ks_tv v67 ?_
                        refine ks_iconst (x := nI 2) dX16_act_172 (by decide) rfl ?_
                        refine ks_subN (by omega) dX16_act_173 rfl ?_
                        refine ks_ialdN (i := xs.length - 2) h362 rfl (by omega) (by decide) dX16_act_174 rfl ?_
                        rw [← en2]
                        refine ks_icmp_neN (tgt := 223) (by omega) (by omega) dX16_act_175 (by decide) rfl (fun hc175 => ?_) (fun hc175 => ?_)
                        · refine ks_iconst (x := nI 0) dX16_act_223 (by decide) rfl ?_
                          have hs : ¬ xs.getD 0 [] = xs.getD 1 [] := fun h => hc175 (esm.mp h).1
                          obtain ⟨Q8, m8⟩ := rsQ.pop (k := 2) hO hK
                          have M8 := hM.ms hT9 m8 Q8
                          have l8 : (xs.drop 2).length ≤ 1000 := by rw [List.length_drop]; omega
                          refine ks_istore dX16_act_224 (by decide) rfl ?_
                          refine ks_sub [(4, _), (0, _), (1, _), (2, _), (3, _)] rfl ?_
                          refine ks_aload_n dX16_act_226 rfl rfl ?_
                          refine ks_dup dX16_act_227 rfl rfl ?_
                          refine ks_getf (T := TX16) (kf := 67) kx_2435 rfl in_X16 cl_X16 (by decide) hO rfl dX16_act_228 rfl ?_
                          refine ks_tv v67 ?_
                          refine ks_iconst (x := nI 2) dX16_act_231 (by decide) rfl ?_
                          refine ks_subN (by omega) dX16_act_232 rfl ?_
                          refine ks_putf (T := TX16) (kf := 67) kx_2435 rfl in_X16 tyX16_ok nmX16 cl_X16 (by decide) hO (Nat.le_of_ble_eq_true rfl) rfl rfl rfl rfl dX16_act_233 rfl ?_
                          refine md_put mdp_67 ?_
                          refine ks_aload_n dX16_act_236 rfl rfl ?_
                          refine ks_iload dX16_act_237 rfl rfl ?_
                          refine ks_iload_n dX16_act_239 rfl rfl ?_
                          refine ks_sipush (x := nI 136) dX16_act_240 (by decide) rfl ?_
                          refine ks_icmp_neN (tgt := 250) (by omega) (by decide) dX16_act_243 (by decide) rfl (fun h9 => ?_) (fun h9 => ?_)
                          · omega
                          · refine ks_iconst (x := nI 1) dX16_act_246 (by decide) rfl ?_
                            refine ks_goto (tgt := 251) dX16_act_247 (by decide) ?_
                            refine ks_callV (n := 2) (M' := mX16_answer) (c_rs_answer (d := d + 5) M8.1 M8.2.1 (b := false) (v := true) l8 ((va_up_ne _ _ (by decide)).trans v74)) (ks_set_same _ _ _) cl_X16 rfl kx_2204 kx_2206 kxp_96 kx_30 kx_2207 (by decide +kernel) rfl (by decide) (Nat.le_of_ble_eq_true rfl) rfl dX16_act_251 rfl (fun z9 S9 y9 => ?_)
                            obtain ⟨rfl, hr⟩ := y9
                            refine ks_goto (tgt := 268) dX16_act_254 (by decide) ?_
                            refine ks_ret rfl dX16_act_268 ?_
                            have hk9 : op = 136 := by omega
                            subst hk9
                            have hc9 : cmS xs ys = some (flagL false :: xs.drop 2, ys) := by
                              unfold cmS
                              rw [if_neg (by omega), decide_eq_false hs]
                            rw [if_neg (by decide), show opB 136 nx pb = pb from rfl, show opO 136 xs ops = ops from rfl]
                            rw [show opE (gdF Gp G9 L b k p m u e inp) (lkB G9 L p e inp) 136 xs ys ops (bytL gc pb (pe - pb)) = (match cmS xs ys with | some q => vfS q.1 q.2 | none => none) from rfl, hc9]
                            rw [show (match some (flagL false :: xs.drop 2, ys) with | some q => vfS q.1 q.2 | none => none) = vfS (flagL false :: xs.drop 2) ys from rfl, vf_flag]
                            exact ⟨rfl, ((hr.mq M8 hT9).A ((va_up_ne _ _ (by decide)).trans v80) ((va_up_ne _ _ (by decide)).trans v82)).after (mqK.ms m8).j⟩
                        · refine ks_aload_n dX16_act_178 rfl rfl ?_
                          refine ks_getf (T := TX16) (kf := 65) kx_2433 rfl in_X16 cl_X16 (by decide) hO rfl dX16_act_179 rfl ?_
                          refine ks_aload_n dX16_act_182 rfl rfl ?_
                          refine ks_getf (T := TX16) (kf := 67) kx_2435 rfl in_X16 cl_X16 (by decide) hO rfl dX16_act_183 rfl ?_
                          refine ks_tv v67 ?_
                          refine ks_iconst (x := nI 1) dX16_act_186 (by decide) rfl ?_
                          refine ks_subN (by omega) dX16_act_187 rfl ?_
                          refine ks_aaldN (i := xs.length - 1) (b := r1) (by decide) (hT.1 0 (by decide)) rfl (by omega) (by decide) a1 dX16_act_188 rfl ?_
                          refine ks_iconst (x := nI 0) dX16_act_189 (by decide) rfl ?_
                          refine ks_aload_n dX16_act_190 rfl rfl ?_
                          refine ks_getf (T := TX16) (kf := 65) kx_2433 rfl in_X16 cl_X16 (by decide) hO rfl dX16_act_191 rfl ?_
                          refine ks_aload_n dX16_act_194 rfl rfl ?_
                          refine ks_getf (T := TX16) (kf := 67) kx_2435 rfl in_X16 cl_X16 (by decide) hO rfl dX16_act_195 rfl ?_
                          refine ks_tv v67 ?_
                          refine ks_iconst (x := nI 2) dX16_act_198 (by decide) rfl ?_
                          refine ks_subN (by omega) dX16_act_199 rfl ?_
                          refine ks_aaldN (i := xs.length - 2) (b := r2) (by decide) (hT.1 0 (by decide)) rfl (by omega) (by decide) b1 dX16_act_200 rfl ?_
                          refine ks_iconst (x := nI 0) dX16_act_201 (by decide) rfl ?_
                          refine ks_aload_n dX16_act_202 rfl rfl ?_
                          refine ks_getf (T := TX16) (kf := 66) kx_2434 rfl in_X16 cl_X16 (by decide) hO rfl dX16_act_203 rfl ?_
                          refine ks_aload_n dX16_act_206 rfl rfl ?_
                          refine ks_getf (T := TX16) (kf := 67) kx_2435 rfl in_X16 cl_X16 (by decide) hO rfl dX16_act_207 rfl ?_
                          refine ks_tv v67 ?_
                          refine ks_iconst (x := nI 1) dX16_act_210 (by decide) rfl ?_
                          refine ks_subN (by omega) dX16_act_211 rfl ?_
                          refine ks_ialdN (i := xs.length - 1) h362 rfl (by omega) (by decide) dX16_act_212 rfl ?_
                          rw [← en1]
                          refine ks_callS (n := 5) (M' := mX16_alike) (c_md_alike (d := d + 9) a2 a3 b2 b3 (i := 0) (k := 0) (n := n1) (by omega) (by omega) (by decide) (by decide)) kx_2134 kx_2135 kx_30 kx_2136 (by decide +kernel) rfl (by decide) (Nat.le_of_ble_eq_true rfl) rfl dX16_act_213 rfl (fun z5 S5 y5 => ?_)
                          obtain ⟨rfl, hT5⟩ := y5
                          obtain rfl := hT5.symm
                          refine ks_if_eqZ (tgt := 223) dX16_act_216 (by decide) rfl (fun hc216 => ?_) (fun hc216 => ?_)
                          · refine ks_iconst (x := nI 0) dX16_act_223 (by decide) rfl ?_
                            have hs : ¬ xs.getD 0 [] = xs.getD 1 [] := fun h => absurd (decide_eq_true (esm.mp h).2) (by rw [hc216]; decide)
                            obtain ⟨Q8, m8⟩ := rsQ.pop (k := 2) hO hK
                            have M8 := hM.ms hT9 m8 Q8
                            have l8 : (xs.drop 2).length ≤ 1000 := by rw [List.length_drop]; omega
                            refine ks_istore dX16_act_224 (by decide) rfl ?_
                            refine ks_sub [(4, _), (0, _), (1, _), (2, _), (3, _)] rfl ?_
                            refine ks_aload_n dX16_act_226 rfl rfl ?_
                            refine ks_dup dX16_act_227 rfl rfl ?_
                            refine ks_getf (T := TX16) (kf := 67) kx_2435 rfl in_X16 cl_X16 (by decide) hO rfl dX16_act_228 rfl ?_
                            refine ks_tv v67 ?_
                            refine ks_iconst (x := nI 2) dX16_act_231 (by decide) rfl ?_
                            refine ks_subN (by omega) dX16_act_232 rfl ?_
                            refine ks_putf (T := TX16) (kf := 67) kx_2435 rfl in_X16 tyX16_ok nmX16 cl_X16 (by decide) hO (Nat.le_of_ble_eq_true rfl) rfl rfl rfl rfl dX16_act_233 rfl ?_
                            refine md_put mdp_67 ?_
                            refine ks_aload_n dX16_act_236 rfl rfl ?_
                            refine ks_iload dX16_act_237 rfl rfl ?_
                            refine ks_iload_n dX16_act_239 rfl rfl ?_
                            refine ks_sipush (x := nI 136) dX16_act_240 (by decide) rfl ?_
                            refine ks_icmp_neN (tgt := 250) (by omega) (by decide) dX16_act_243 (by decide) rfl (fun h9 => ?_) (fun h9 => ?_)
                            · omega
                            · refine ks_iconst (x := nI 1) dX16_act_246 (by decide) rfl ?_
                              refine ks_goto (tgt := 251) dX16_act_247 (by decide) ?_
                              refine ks_callV (n := 2) (M' := mX16_answer) (c_rs_answer (d := d + 5) M8.1 M8.2.1 (b := false) (v := true) l8 ((va_up_ne _ _ (by decide)).trans v74)) (ks_set_same _ _ _) cl_X16 rfl kx_2204 kx_2206 kxp_96 kx_30 kx_2207 (by decide +kernel) rfl (by decide) (Nat.le_of_ble_eq_true rfl) rfl dX16_act_251 rfl (fun z9 S9 y9 => ?_)
                              obtain ⟨rfl, hr⟩ := y9
                              refine ks_goto (tgt := 268) dX16_act_254 (by decide) ?_
                              refine ks_ret rfl dX16_act_268 ?_
                              have hk9 : op = 136 := by omega
                              subst hk9
                              have hc9 : cmS xs ys = some (flagL false :: xs.drop 2, ys) := by
                                unfold cmS
                                rw [if_neg (by omega), decide_eq_false hs]
                              rw [if_neg (by decide), show opB 136 nx pb = pb from rfl, show opO 136 xs ops = ops from rfl]
                              rw [show opE (gdF Gp G9 L b k p m u e inp) (lkB G9 L p e inp) 136 xs ys ops (bytL gc pb (pe - pb)) = (match cmS xs ys with | some q => vfS q.1 q.2 | none => none) from rfl, hc9]
                              rw [show (match some (flagL false :: xs.drop 2, ys) with | some q => vfS q.1 q.2 | none => none) = vfS (flagL false :: xs.drop 2) ys from rfl, vf_flag]
                              exact ⟨rfl, ((hr.mq M8 hT9).A ((va_up_ne _ _ (by decide)).trans v80) ((va_up_ne _ _ (by decide)).trans v82)).after (mqK.ms m8).j⟩
                          · refine ks_iconst (x := nI 1) dX16_act_219 (by decide) rfl ?_
                            refine ks_goto (tgt := 224) dX16_act_220 (by decide) ?_
                            have hs : xs.getD 0 [] = xs.getD 1 [] := esm.mpr ⟨by omega, of_decide_eq_true hc216⟩
                            obtain ⟨Q8, m8⟩ := rsQ.pop (k := 2) hO hK
                            have M8 := hM.ms hT9 m8 Q8
                            have l8 : (xs.drop 2).length ≤ 1000 := by rw [List.length_drop]; omega
                            refine ks_istore dX16_act_224 (by decide) rfl ?_
                            refine ks_sub [(4, _), (0, _), (1, _), (2, _), (3, _)] rfl ?_
                            refine ks_aload_n dX16_act_226 rfl rfl ?_
                            refine ks_dup dX16_act_227 rfl rfl ?_
                            refine ks_getf (T := TX16) (kf := 67) kx_2435 rfl in_X16 cl_X16 (by decide) hO rfl dX16_act_228 rfl ?_
                            refine ks_tv v67 ?_
                            refine ks_iconst (x := nI 2) dX16_act_231 (by decide) rfl ?_
                            refine ks_subN (by omega) dX16_act_232 rfl ?_
                            refine ks_putf (T := TX16) (kf := 67) kx_2435 rfl in_X16 tyX16_ok nmX16 cl_X16 (by decide) hO (Nat.le_of_ble_eq_true rfl) rfl rfl rfl rfl dX16_act_233 rfl ?_
                            refine md_put mdp_67 ?_
                            refine ks_aload_n dX16_act_236 rfl rfl ?_
                            refine ks_iload dX16_act_237 rfl rfl ?_
                            refine ks_iload_n dX16_act_239 rfl rfl ?_
                            refine ks_sipush (x := nI 136) dX16_act_240 (by decide) rfl ?_
                            refine ks_icmp_neN (tgt := 250) (by omega) (by decide) dX16_act_243 (by decide) rfl (fun h9 => ?_) (fun h9 => ?_)
                            · omega
                            · refine ks_iconst (x := nI 1) dX16_act_246 (by decide) rfl ?_
                              refine ks_goto (tgt := 251) dX16_act_247 (by decide) ?_
                              refine ks_callV (n := 2) (M' := mX16_answer) (c_rs_answer (d := d + 5) M8.1 M8.2.1 (b := true) (v := true) l8 ((va_up_ne _ _ (by decide)).trans v74)) (ks_set_same _ _ _) cl_X16 rfl kx_2204 kx_2206 kxp_96 kx_30 kx_2207 (by decide +kernel) rfl (by decide) (Nat.le_of_ble_eq_true rfl) rfl dX16_act_251 rfl (fun z9 S9 y9 => ?_)
                              obtain ⟨rfl, hr⟩ := y9
                              refine ks_goto (tgt := 268) dX16_act_254 (by decide) ?_
                              refine ks_ret rfl dX16_act_268 ?_
                              have hk9 : op = 136 := by omega
                              subst hk9
                              have hc9 : cmS xs ys = some (flagL true :: xs.drop 2, ys) := by
                                unfold cmS
                                rw [if_neg (by omega), decide_eq_true hs]
                              rw [if_neg (by decide), show opB 136 nx pb = pb from rfl, show opO 136 xs ops = ops from rfl]
                              rw [show opE (gdF Gp G9 L b k p m u e inp) (lkB G9 L p e inp) 136 xs ys ops (bytL gc pb (pe - pb)) = (match cmS xs ys with | some q => vfS q.1 q.2 | none => none) from rfl, hc9]
                              rw [show (match some (flagL true :: xs.drop 2, ys) with | some q => vfS q.1 q.2 | none => none) = vfS (flagL true :: xs.drop 2) ys from rfl, vf_flag]
                              exact ⟨rfl, ((hr.mq M8 hT9).A ((va_up_ne _ _ (by decide)).trans v80) ((va_up_ne _ _ (by decide)).trans v82)).after (mqK.ms m8).j⟩
                      · exact absurd hc149 (by decide)
                    · obtain rfl := (y3b c0).symm
                      rw [decide_eq_false c0]
                      refine ks_if_neZ (tgt := 153) dX16_act_149 (by decide) rfl (fun hc149 => ?_) (fun hc149 => ?_)
                      · exact absurd hc149 (by decide)
                      · refine ks_ret rfl dX16_act_152 ?_
                        obtain ⟨e1, e2⟩ := oe_pf (GD := (gdF Gp G9 L b k p m u e inp)) (LK := (lkB G9 L p e inp)) (op := op) (ops := ops) (xs := xs) (ys := ys) (c := bytL gc pb (pe - pb)) (by omega)
                        rw [if_neg (show ¬ op ≤ 78 by omega), e1, e2, show opB op nx pb = pb from if_neg (by omega)]
                        exact ⟨rfl, mqA.bad ((mqJ.rf S V F).put (by decide)) (hM.put hT9 (by decide)) (va_up_self _ _ _) (by
                          have hcm : cmS xs ys = none := if_pos (by omega)
                          rcases (show op = 135 ∨ op = 136 by omega) with rfl | rfl
                          · exact hcm
                          · show (match cmS xs ys with | some q => vfS q.1 q.2 | none => none) = none
                            rw [hcm])⟩
              · refine ks_aload_n dX16_act_103 rfl rfl ?_
                refine ks_iconst (x := nI 1) dX16_act_104 (by decide) rfl ?_
                refine ks_callV (n := 1) (M' := mX16_need) (c_rs_need (d := d + 9) hO hK (n := 1) (by decide)) hO cl_X16 rfl kx_2165 kx_2167 kxp_87 kx_30 kx_2168 (by decide +kernel) rfl (by decide) (Nat.le_of_ble_eq_true rfl) rfl dX16_act_105 rfl (fun z3 S3 y3 => ?_)
                obtain ⟨rfl, y3a, y3b⟩ := y3
                by_cases c0 : 1 ≤ xs.length
                · obtain rfl := (y3a c0).symm
                  rw [decide_eq_true c0]
                  obtain ⟨T, sz, oz, vz, hK', eF, gS, kS, h367⟩ := id hK
                  obtain ⟨hT, ⟨h362, h364, h366⟩, -, -, hx, -⟩ := id hK'
                  obtain ⟨r1, g1, a1, a2, a3, a4, a5⟩ := hx (xs.length - 1) (by omega)
                  rw [Nat.sub_self] at a5
                  have l0 : (xs.getD 0 []).length = sz (xs.length - 1) := by rw [a5, bytL_len]
                  refine ks_if_eqZ (tgt := 268) dX16_act_108 (by decide) rfl (fun hc108 => ?_) (fun hc108 => ?_)
                  · exact absurd hc108 (by decide)
                  · refine ks_aload_n dX16_act_111 rfl rfl ?_
                    refine ks_aload_n dX16_act_112 rfl rfl ?_
                    refine ks_getf (T := TX16) (kf := 66) kx_2434 rfl in_X16 cl_X16 (by decide) hO rfl dX16_act_113 rfl ?_
                    refine ks_aload_n dX16_act_116 rfl rfl ?_
                    refine ks_getf (T := TX16) (kf := 67) kx_2435 rfl in_X16 cl_X16 (by decide) hO rfl dX16_act_117 rfl ?_
                    refine ks_tv v67 ?_
                    refine ks_iconst (x := nI 1) dX16_act_120 (by decide) rfl ?_
                    refine ks_subN (by omega) dX16_act_121 rfl ?_
                    refine ks_ialdN (i := xs.length - 1) h362 rfl (by omega) (by decide) dX16_act_122 rfl ?_
                    refine ks_i2lN (by omega) dX16_act_123 rfl ?_
                    refine ks_tl (y := iL (((xs.getD 0 []).length : Nat) : Int)) (by rw [l0]; rfl) ?_
                    refine ks_callV (n := 1) (M' := mX16_pushNumber) (c_rs_pushNumber (d := d + 7) hO hK (v := (((xs.getD 0 []).length : Nat) : Int)) (by rw [l0]; omega)) hO cl_X16 rfl kx_2184 kx_2186 kxp_91 kx_30 kx_2187 (by decide +kernel) rfl (by decide) (Nat.le_of_ble_eq_true rfl) rfl dX16_act_124 rfl (fun z4 S4 y4 => ?_)
                    obtain ⟨rfl, hr⟩ := y4
                    refine ks_goto (tgt := 268) dX16_act_127 (by decide) ?_
                    refine ks_ret rfl dX16_act_268 ?_
                    have h130 : op = 130 := by omega
                    subst h130
                    rw [if_neg (by decide), show opE (gdF Gp G9 L b k p m u e inp) (lkB G9 L p e inp) 130 xs ys ops (bytL gc pb (pe - pb)) = (if xs.length = 0 then none else some (numI ((xs.getD 0 []).length : Nat) :: xs, ys)) from rfl, if_neg (by omega), show opB 130 nx pb = pb from rfl, show opO 130 xs ops = ops from rfl]
                    exact ⟨rfl, ((hr.op (by omega) v74).mq hM hT9).A v80 v82⟩
                · obtain rfl := (y3b c0).symm
                  rw [decide_eq_false c0]
                  refine ks_if_eqZ (tgt := 268) dX16_act_108 (by decide) rfl (fun hc108 => ?_) (fun hc108 => ?_)
                  · refine ks_ret rfl dX16_act_268 ?_
                    obtain ⟨e1, e2⟩ := oe_pf (GD := (gdF Gp G9 L b k p m u e inp)) (LK := (lkB G9 L p e inp)) (op := op) (ops := ops) (xs := xs) (ys := ys) (c := bytL gc pb (pe - pb)) (by omega)
                    rw [if_neg (show ¬ op ≤ 78 by omega), e1, e2, show opB op nx pb = pb from if_neg (by omega)]
                    exact ⟨rfl, mqA.bad ((mqJ.rf S V F).put (by decide)) (hM.put hT9 (by decide)) (va_up_self _ _ _) (by
                      have h130 : op = 130 := by omega
                      subst h130
                      show (if xs.length = 0 then none else _) = none
                      rw [if_pos (by omega)])⟩
                  · exact absurd hc108 (by decide)
            · refine ks_iload_n dX16_act_76 rfl rfl ?_
              refine ks_bipush (x := nI 125) dX16_act_77 (by decide) rfl ?_
              refine ks_icmp_gtN (tgt := 96) (by omega) (by decide) dX16_act_79 (by decide) rfl (fun hc79 => ?_) (fun hc79 => ?_)
              · refine ks_iload_n dX16_act_96 rfl rfl ?_
                refine ks_sipush (x := nI 130) dX16_act_97 (by decide) rfl ?_
                refine ks_icmp_neN (tgt := 130) (by omega) (by decide) dX16_act_100 (by decide) rfl (fun hc100 => ?_) (fun hc100 => ?_)
                · refine ks_iload_n dX16_act_130 rfl rfl ?_
                  refine ks_sipush (x := nI 135) dX16_act_131 (by decide) rfl ?_
                  refine ks_icmp_eqN (tgt := 144) (by omega) (by decide) dX16_act_134 (by decide) rfl (fun hc134 => ?_) (fun hc134 => ?_)
                  · refine ks_aload_n dX16_act_144 rfl rfl ?_
                    refine ks_iconst (x := nI 2) dX16_act_145 (by decide) rfl ?_
                    refine ks_callV (n := 1) (M' := mX16_need) (c_rs_need (d := d + 9) hO hK (n := 2) (by decide)) hO cl_X16 rfl kx_2165 kx_2167 kxp_87 kx_30 kx_2168 (by decide +kernel) rfl (by decide) (Nat.le_of_ble_eq_true rfl) rfl dX16_act_146 rfl (fun z3 S3 y3 => ?_)
                    obtain ⟨rfl, y3a, y3b⟩ := y3
                    by_cases c0 : 2 ≤ xs.length
                    · obtain rfl := (y3a c0).symm
                      rw [decide_eq_true c0]
                      obtain ⟨T, sz, oz, vz, hK', eF, gS, kS, h367⟩ := id hK
                      obtain ⟨hT, ⟨h362, h364, h366⟩, -, -, hx, -⟩ := id hK'
                      obtain ⟨r1, g1, a1, a2, a3, a4, a5⟩ := hx (xs.length - 1) (by omega)
                      rw [Nat.sub_self] at a5
                      obtain ⟨r2, g2, b1, b2, b3, b4, b5⟩ := hx (xs.length - 2) (by omega)
                      rw [show xs.length - 1 - (xs.length - 2) = 1 by omega] at b5
                      obtain ⟨n1, en1⟩ : ∃ n, n = sz (xs.length - 1) := ⟨_, rfl⟩
                      obtain ⟨n2, en2⟩ : ∃ n, n = sz (xs.length - 2) := ⟨_, rfl⟩
                      rw [← en1] at a4 a5
                      rw [← en2] at b4 b5
                      have esm : (xs.getD 0 [] = xs.getD 1 []) ↔ n1 = n2 ∧ ∀ q, q < n1 → g1 (0 + q) = g2 (0 + q) := by rw [a5, b5]; exact bytL_ext
                      refine ks_if_neZ (tgt := 153) dX16_act_149 (by decide) rfl (fun hc149 => ?_) (fun hc149 => ?_)
                      · refine ks_aload_n dX16_act_153 rfl rfl ?_
                        refine ks_getf (T := TX16) (kf := 66) kx_2434 rfl in_X16 cl_X16 (by decide) hO rfl dX16_act_154 rfl ?_
                        refine ks_aload_n dX16_act_157 rfl rfl ?_
                        refine ks_getf (T := TX16) (kf := 67) kx_2435 rfl in_X16 cl_X16 (by decide) hO rfl dX16_act_158 rfl ?_
                        refine ks_tv v67 ?_
                        refine ks_iconst (x := nI 1) dX16_act_161 (by decide) rfl ?_
                        refine ks_subN (by omega) dX16_act_162 rfl ?_
                        refine ks_ialdN (i := xs.length - 1) h362 rfl (by omega) (by decide) dX16_act_163 rfl ?_
                        rw [← en1]
                        refine ks_aload_n dX16_act_164 rfl rfl ?_
                        refine ks_getf (T := TX16) (kf := 66) kx_2434 rfl in_X16 cl_X16 (by decide) hO rfl dX16_act_165 rfl ?_
                        refine ks_aload_n dX16_act_168 rfl rfl ?_
                        refine ks_getf (T := TX16) (kf := 67) kx_2435 rfl in_X16 cl_X16 (by decide) hO rfl dX16_act_169 rfl ?_
                        refine ks_tv v67 ?_
                        refine ks_iconst (x := nI 2) dX16_act_172 (by decide) rfl ?_
                        refine ks_subN (by omega) dX16_act_173 rfl ?_
                        refine ks_ialdN (i := xs.length - 2) h362 rfl (by omega) (by decide) dX16_act_174 rfl ?_
                        rw [← en2]
                        refine ks_icmp_neN (tgt := 223) (by omega) (by omega) dX16_act_175 (by decide) rfl (fun hc175 => ?_) (fun hc175 => ?_)
                        · refine ks_iconst (x := nI 0) dX16_act_223 (by decide) rfl ?_
                          have hs : ¬ xs.getD 0 [] = xs.getD 1 [] := fun h => hc175 (esm.mp h).1
                          obtain ⟨Q8, m8⟩ := rsQ.pop (k := 2) hO hK
                          have M8 := hM.ms hT9 m8 Q8
                          have l8 : (xs.drop 2).length ≤ 1000 := by rw [List.length_drop]; omega
                          refine ks_istore dX16_act_224 (by decide) rfl ?_
                          refine ks_sub [(4, _), (0, _), (1, _), (2, _), (3, _)] rfl ?_
                          refine ks_aload_n dX16_act_226 rfl rfl ?_
                          refine ks_dup dX16_act_227 rfl rfl ?_
                          refine ks_getf (T := TX16) (kf := 67) kx_2435 rfl in_X16 cl_X16 (by decide) hO rfl dX16_act_228 rfl ?_
                          refine ks_tv v67 ?_
                          refine ks_iconst (x := nI 2) dX16_act_231 (by decide) rfl ?_
                          refine ks_subN (by omega) dX16_act_232 rfl ?_
                          refine ks_putf (T := TX16) (kf := 67) kx_2435 rfl in_X16 tyX16_ok nmX16 cl_X16 (by decide) hO (Nat.le_of_ble_eq_true rfl) rfl rfl rfl rfl dX16_act_233 rfl ?_
                          refine md_put mdp_67 ?_
                          refine ks_aload_n dX16_act_236 rfl rfl ?_
                          refine ks_iload dX16_act_237 rfl rfl ?_
                          refine ks_iload_n dX16_act_239 rfl rfl ?_
                          refine ks_sipush (x := nI 136) dX16_act_240 (by decide) rfl ?_
                          refine ks_icmp_neN (tgt := 250) (by omega) (by decide) dX16_act_243 (by decide) rfl (fun h9 => ?_) (fun h9 => ?_)
                          · refine ks_iconst (x := nI 0) dX16_act_250 (by decide) rfl ?_
                            refine ks_callV (n := 2) (M' := mX16_answer) (c_rs_answer (d := d + 5) M8.1 M8.2.1 (b := false) (v := false) l8 ((va_up_ne _ _ (by decide)).trans v74)) (ks_set_same _ _ _) cl_X16 rfl kx_2204 kx_2206 kxp_96 kx_30 kx_2207 (by decide +kernel) rfl (by decide) (Nat.le_of_ble_eq_true rfl) rfl dX16_act_251 rfl (fun z9 S9 y9 => ?_)
                            obtain ⟨rfl, hr⟩ := y9
                            refine ks_goto (tgt := 268) dX16_act_254 (by decide) ?_
                            refine ks_ret rfl dX16_act_268 ?_
                            have hk9 : op = 135 := by omega
                            subst hk9
                            have hc9 : cmS xs ys = some (flagL false :: xs.drop 2, ys) := by
                              unfold cmS
                              rw [if_neg (by omega), decide_eq_false hs]
                            rw [if_neg (by decide), show opB 135 nx pb = pb from rfl, show opO 135 xs ops = ops from rfl]
                            rw [show opE (gdF Gp G9 L b k p m u e inp) (lkB G9 L p e inp) 135 xs ys ops (bytL gc pb (pe - pb)) = cmS xs ys from rfl, hc9]
                            exact ⟨rfl, ((hr.mq M8 hT9).A ((va_up_ne _ _ (by decide)).trans v80) ((va_up_ne _ _ (by decide)).trans v82)).after (mqK.ms m8).j⟩
                          · refine ks_iconst (x := nI 1) dX16_act_246 (by decide) rfl ?_
                            refine ks_goto (tgt := 251) dX16_act_247 (by decide) ?_
                            refine ks_callV (n := 2) (M' := mX16_answer) (c_rs_answer (d := d + 5) M8.1 M8.2.1 (b := false) (v := true) l8 ((va_up_ne _ _ (by decide)).trans v74)) (ks_set_same _ _ _) cl_X16 rfl kx_2204 kx_2206 kxp_96 kx_30 kx_2207 (by decide +kernel) rfl (by decide) (Nat.le_of_ble_eq_true rfl) rfl dX16_act_251 rfl (fun z9 S9 y9 => ?_)
                            obtain ⟨rfl, hr⟩ := y9
                            refine ks_goto (tgt := 268) dX16_act_254 (by decide) ?_
                            refine ks_ret rfl dX16_act_268 ?_
                            have hk9 : op = 136 := by omega
                            subst hk9
                            have hc9 : cmS xs ys = some (flagL false :: xs.drop 2, ys) := by
                              unfold cmS
                              rw [if_neg (by omega), decide_eq_false hs]
                            rw [if_neg (by decide), show opB 136 nx pb = pb from rfl, show opO 136 xs ops = ops from rfl]
                            rw [show opE (gdF Gp G9 L b k p m u e inp) (lkB G9 L p e inp) 136 xs ys ops (bytL gc pb (pe - pb)) = (match cmS xs ys with | some q => vfS q.1 q.2 | none => none) from rfl, hc9]
                            rw [show (match some (flagL false :: xs.drop 2, ys) with | some q => vfS q.1 q.2 | none => none) = vfS (flagL false :: xs.drop 2) ys from rfl, vf_flag]
                            exact ⟨rfl, ((hr.mq M8 hT9).A ((va_up_ne _ _ (by decide)).trans v80) ((va_up_ne _ _ (by decide)).trans v82)).after (mqK.ms m8).j⟩
                        · refine ks_aload_n dX16_act_178 rfl rfl ?_
                          refine ks_getf (T := TX16) (kf := 65) kx_2433 rfl in_X16 cl_X16 (by decide) hO rfl dX16_act_179 rfl ?_
                          refine ks_aload_n dX16_act_182 rfl rfl ?_
                          refine ks_getf (T := TX16) (kf := 67) kx_2435 rfl in_X16 cl_X16 (by decide) hO rfl dX16_act_183 rfl ?_
                          refine ks_tv v67 ?_
                          refine ks_iconst (x := nI 1) dX16_act_186 (by decide) rfl ?_
                          refine ks_subN (by omega) dX16_act_187 rfl ?_
                          refine ks_aaldN (i := xs.length - 1) (b := r1) (by decide) (hT.1 0 (by decide)) rfl (by omega) (by decide) a1 dX16_act_188 rfl ?_
                          refine ks_iconst (x := nI 0) dX16_act_189 (by decide) rfl ?_
                          refine ks_aload_n dX16_act_190 rfl rfl ?_
                          refine ks_getf (T := TX16) (kf := 65) kx_2433 rfl in_X16 cl_X16 (by decide) hO rfl dX16_act_191 rfl ?_
                          refine ks_aload_n dX16_act_194 rfl rfl ?_
                          refine ks_getf (T := TX16) (kf := 67) kx_2435 rfl in_X16 cl_X16 (by decide) hO rfl dX16_act_195 rfl ?_
                          refine ks_tv v67 ?_
                          refine ks_iconst (x := nI 2) dX16_act_198 (by decide) rfl ?_
                          refine ks_subN (by omega) dX16_act_199 rfl ?_
                          refine ks_aaldN (i := xs.length - 2) (b := r2) (by decide) (hT.1 0 (by decide)) rfl (by omega) (by decide) b1 dX16_act_200 rfl ?_
                          refine ks_iconst (x := nI 0) dX16_act_201 (by decide) rfl ?_
                          refine ks_aload_n dX16_act_202 rfl rfl ?_
                          refine ks_getf (T := TX16) (kf := 66) kx_2434 rfl in_X16 cl_X16 (by decide) hO rfl dX16_act_203 rfl ?_
                          refine ks_aload_n dX16_act_206 rfl rfl ?_
                          refine ks_getf (T := TX16) (kf := 67) kx_2435 rfl in_X16 cl_X16 (by decide) hO rfl dX16_act_207 rfl ?_
                          refine ks_tv v67 ?_
                          refine ks_iconst (x := nI 1) dX16_act_210 (by decide) rfl ?_
                          refine ks_subN (by omega) dX16_act_211 rfl ?_
                          refine ks_ialdN (i := xs.length - 1) h362 rfl (by omega) (by decide) dX16_act_212 rfl ?_
                          rw [← en1]
                          refine ks_callS (n := 5) (M' := mX16_alike) (c_md_alike (d := d + 9) a2 a3 b2 b3 (i := 0) (k := 0) (n := n1) (by omega) (by omega) (by decide) (by decide)) kx_2134 kx_2135 kx_30 kx_2136 (by decide +kernel) rfl (by decide) (Nat.le_of_ble_eq_true rfl) rfl dX16_act_213 rfl (fun z5 S5 y5 => ?_)
                          obtain ⟨rfl, hT5⟩ := y5
                          obtain rfl := hT5.symm
                          refine ks_if_eqZ (tgt := 223) dX16_act_216 (by decide) rfl (fun hc216 => ?_) (fun hc216 => ?_)
                          · refine ks_iconst (x := nI 0) dX16_act_223 (by decide) rfl ?_
                            have hs : ¬ xs.getD 0 [] = xs.getD 1 [] := fun h => absurd (decide_eq_true (esm.mp h).2) (by rw [hc216]; decide)
                            obtain ⟨Q8, m8⟩ := rsQ.pop (k := 2) hO hK
                            have M8 := hM.ms hT9 m8 Q8
                            have l8 : (xs.drop 2).length ≤ 1000 := by rw [List.length_drop]; omega
                            refine ks_istore dX16_act_224 (by decide) rfl ?_
                            refine ks_sub [(4, _), (0, _), (1, _), (2, _), (3, _)] rfl ?_
                            refine ks_aload_n dX16_act_226 rfl rfl ?_
                            refine ks_dup dX16_act_227 rfl rfl ?_
                            refine ks_getf (T := TX16) (kf := 67) kx_2435 rfl in_X16 cl_X16 (by decide) hO rfl dX16_act_228 rfl ?_
                            refine ks_tv v67 ?_
                            refine ks_iconst (x := nI 2) dX16_act_231 (by decide) rfl ?_
                            refine ks_subN (by omega) dX16_act_232 rfl ?_
                            refine ks_putf (T := TX16) (kf := 67) kx_2435 rfl in_X16 tyX16_ok nmX16 cl_X16 (by decide) hO (Nat.le_of_ble_eq_true rfl) rfl rfl rfl rfl dX16_act_233 rfl ?_
                            refine md_put mdp_67 ?_
                            refine ks_aload_n dX16_act_236 rfl rfl ?_
                            refine ks_iload dX16_act_237 rfl rfl ?_
                            refine ks_iload_n dX16_act_239 rfl rfl ?_
                            refine ks_sipush (x := nI 136) dX16_act_240 (by decide) rfl ?_
                            refine ks_icmp_neN (tgt := 250) (by omega) (by decide) dX16_act_243 (by decide) rfl (fun h9 => ?_) (fun h9 => ?_)
                            · refine ks_iconst (x := nI 0) dX16_act_250 (by decide) rfl ?_
                              refine ks_callV (n := 2) (M' := mX16_answer) (c_rs_answer (d := d + 5) M8.1 M8.2.1 (b := false) (v := false) l8 ((va_up_ne _ _ (by decide)).trans v74)) (ks_set_same _ _ _) cl_X16 rfl kx_2204 kx_2206 kxp_96 kx_30 kx_2207 (by decide +kernel) rfl (by decide) (Nat.le_of_ble_eq_true rfl) rfl dX16_act_251 rfl (fun z9 S9 y9 => ?_)
                              obtain ⟨rfl, hr⟩ := y9
                              refine ks_goto (tgt := 268) dX16_act_254 (by decide) ?_
                              refine ks_ret rfl dX16_act_268 ?_
                              have hk9 : op = 135 := by omega
                              subst hk9
                              have hc9 : cmS xs ys = some (flagL false :: xs.drop 2, ys) := by
                                unfold cmS
                                rw [if_neg (by omega), decide_eq_false hs]
                              rw [if_neg (by decide), show opB 135 nx pb = pb from rfl, show opO 135 xs ops = ops from rfl]
                              rw [show opE (gdF Gp G9 L b k p m u e inp) (lkB G9 L p e inp) 135 xs ys ops (bytL gc pb (pe - pb)) = cmS xs ys from rfl, hc9]
                              exact ⟨rfl, ((hr.mq M8 hT9).A ((va_up_ne _ _ (by decide)).trans v80) ((va_up_ne _ _ (by decide)).trans v82)).after (mqK.ms m8).j⟩
                            · refine ks_iconst (x := nI 1) dX16_act_246 (by decide) rfl ?_
                              refine ks_goto (tgt := 251) dX16_act_247 (by decide) ?_
                              refine ks_callV (n := 2) (M' := mX16_answer) (c_rs_answer (d := d + 5) M8.1 M8.2.1 (b := false) (v := true) l8 ((va_up_ne _ _ (by decide)).trans v74)) (ks_set_same _ _ _) cl_X16 rfl kx_2204 kx_2206 kxp_96 kx_30 kx_2207 (by decide +kernel) rfl (by decide) (Nat.le_of_ble_eq_true rfl) rfl dX16_act_251 rfl (fun z9 S9 y9 => ?_)
                              obtain ⟨rfl, hr⟩ := y9
                              refine ks_goto (tgt := 268) dX16_act_254 (by decide) ?_
                              refine ks_ret rfl dX16_act_268 ?_
                              have hk9 : op = 136 := by omega
                              subst hk9
                              have hc9 : cmS xs ys = some (flagL false :: xs.drop 2, ys) := by
                                unfold cmS
                                rw [if_neg (by omega), decide_eq_false hs]
                              rw [if_neg (by decide), show opB 136 nx pb = pb from rfl, show opO 136 xs ops = ops from rfl]
                              rw [show opE (gdF Gp G9 L b k p m u e inp) (lkB G9 L p e inp) 136 xs ys ops (bytL gc pb (pe - pb)) = (match cmS xs ys with | some q => vfS q.1 q.2 | none => none) from rfl, hc9]
                              rw [show (match some (flagL false :: xs.drop 2, ys) with | some q => vfS q.1 q.2 | none => none) = vfS (flagL false :: xs.drop 2) ys from rfl, vf_flag]
                              exact ⟨rfl, ((hr.mq M8 hT9).A ((va_up_ne _ _ (by decide)).trans v80) ((va_up_ne _ _ (by decide)).trans v82)).after (mqK.ms m8).j⟩
                          · refine ks_iconst (x := nI 1) dX16_act_219 (by decide) rfl ?_
                            refine ks_goto (tgt := 224) dX16_act_220 (by decide) ?_
                            have hs : xs.getD 0 [] = xs.getD 1 [] := esm.mpr ⟨by omega, of_decide_eq_true hc216⟩
                            obtain ⟨Q8, m8⟩ := rsQ.pop (k := 2) hO hK
                            have M8 := hM.ms hT9 m8 Q8
                            have l8 : (xs.drop 2).length ≤ 1000 := by rw [List.length_drop]; omega
                            refine ks_istore dX16_act_224 (by decide) rfl ?_
                            refine ks_sub [(4, _), (0, _), (1, _), (2, _), (3, _)] rfl ?_
                            refine ks_aload_n dX16_act_226 rfl rfl ?_
                            refine ks_dup dX16_act_227 rfl rfl ?_
                            refine ks_getf (T := TX16) (kf := 67) kx_2435 rfl in_X16 cl_X16 (by decide) hO rfl dX16_act_228 rfl ?_
                            refine ks_tv v67 ?_
                            refine ks_iconst (x := nI 2) dX16_act_231 (by decide) rfl ?_
                            refine ks_subN (by omega) dX16_act_232 rfl ?_
                            refine ks_putf (T := TX16) (kf := 67) kx_2435 rfl in_X16 tyX16_ok nmX16 cl_X16 (by decide) hO (Nat.le_of_ble_eq_true rfl) rfl rfl rfl rfl dX16_act_233 rfl ?_
                            refine md_put mdp_67 ?_
                            refine ks_aload_n dX16_act_236 rfl rfl ?_
                            refine ks_iload dX16_act_237 rfl rfl ?_
                            refine ks_iload_n dX16_act_239 rfl rfl ?_
                            refine ks_sipush (x := nI 136) dX16_act_240 (by decide) rfl ?_
                            refine ks_icmp_neN (tgt := 250) (by omega) (by decide) dX16_act_243 (by decide) rfl (fun h9 => ?_) (fun h9 => ?_)
                            · refine ks_iconst (x := nI 0) dX16_act_250 (by decide) rfl ?_
                              refine ks_callV (n := 2) (M' := mX16_answer) (c_rs_answer (d := d + 5) M8.1 M8.2.1 (b := true) (v := false) l8 ((va_up_ne _ _ (by decide)).trans v74)) (ks_set_same _ _ _) cl_X16 rfl kx_2204 kx_2206 kxp_96 kx_30 kx_2207 (by decide +kernel) rfl (by decide) (Nat.le_of_ble_eq_true rfl) rfl dX16_act_251 rfl (fun z9 S9 y9 => ?_)
                              obtain ⟨rfl, hr⟩ := y9
                              refine ks_goto (tgt := 268) dX16_act_254 (by decide) ?_
                              refine ks_ret rfl dX16_act_268 ?_
                              have hk9 : op = 135 := by omega
                              subst hk9
                              have hc9 : cmS xs ys = some (flagL true :: xs.drop 2, ys) := by
                                unfold cmS
                                rw [if_neg (by omega), decide_eq_true hs]
                              rw [if_neg (by decide), show opB 135 nx pb = pb from rfl, show opO 135 xs ops = ops from rfl]
                              rw [show opE (gdF Gp G9 L b k p m u e inp) (lkB G9 L p e inp) 135 xs ys ops (bytL gc pb (pe - pb)) = cmS xs ys from rfl, hc9]
                              exact ⟨rfl, ((hr.mq M8 hT9).A ((va_up_ne _ _ (by decide)).trans v80) ((va_up_ne _ _ (by decide)).trans v82)).after (mqK.ms m8).j⟩
                            · refine ks_iconst (x := nI 1) dX16_act_246 (by decide) rfl ?_
                              refine ks_goto (tgt := 251) dX16_act_247 (by decide) ?_
                              refine ks_callV (n := 2) (M' := mX16_answer) (c_rs_answer (d := d + 5) M8.1 M8.2.1 (b := true) (v := true) l8 ((va_up_ne _ _ (by decide)).trans v74)) (ks_set_same _ _ _) cl_X16 rfl kx_2204 kx_2206 kxp_96 kx_30 kx_2207 (by decide +kernel) rfl (by decide) (Nat.le_of_ble_eq_true rfl) rfl dX16_act_251 rfl (fun z9 S9 y9 => ?_)
                              obtain ⟨rfl, hr⟩ := y9
                              refine ks_goto (tgt := 268) dX16_act_254 (by decide) ?_
                              refine ks_ret rfl dX16_act_268 ?_
                              have hk9 : op = 136 := by omega
                              subst hk9
                              have hc9 : cmS xs ys = some (flagL true :: xs.drop 2, ys) := by
                                unfold cmS
                                rw [if_neg (by omega), decide_eq_true hs]
                              rw [if_neg (by decide), show opB 136 nx pb = pb from rfl, show opO 136 xs ops = ops from rfl]
                              rw [show opE (gdF Gp G9 L b k p m u e inp) (lkB G9 L p e inp) 136 xs ys ops (bytL gc pb (pe - pb)) = (match cmS xs ys with | some q => vfS q.1 q.2 | none => none) from rfl, hc9]
                              rw [show (match some (flagL true :: xs.drop 2, ys) with | some q => vfS q.1 q.2 | none => none) = vfS (flagL true :: xs.drop 2) ys from rfl, vf_flag]
                              exact ⟨rfl, ((hr.mq M8 hT9).A ((va_up_ne _ _ (by decide)).trans v80) ((va_up_ne _ _ (by decide)).trans v82)).after (mqK.ms m8).j⟩
                      · exact absurd hc149 (by decide)
                    · obtain rfl := (y3b c0).symm
                      rw [decide_eq_false c0]
                      refine ks_if_neZ (tgt := 153) dX16_act_149 (by decide) rfl (fun hc149 => ?_) (fun hc149 => ?_)
                      · exact absurd hc149 (by decide)
                      · refine ks_ret rfl dX16_act_152 ?_
                        obtain ⟨e1, e2⟩ := oe_pf (GD := (gdF Gp G9 L b k p m u e inp)) (LK := (lkB G9 L p e inp)) (op := op) (ops := ops) (xs := xs) (ys := ys) (c := bytL gc pb (pe - pb)) (by omega)
                        rw [if_neg (show ¬ op ≤ 78 by omega), e1, e2, show opB op nx pb = pb from if_neg (by omega)]
                        exact ⟨rfl, mqA.bad ((mqJ.rf S V F).put (by decide)) (hM.put hT9 (by decide)) (va_up_self _ _ _) (by
                          have hcm : cmS xs ys = none := if_pos (by omega)
                          rcases (show op = 135 ∨ op = 136 by omega) with rfl | rfl
                          · exact hcm
                          · show (match cmS xs ys with | some q => vfS q.1 q.2 | none => none) = none
                            rw [hcm])⟩
                  · refine ks_iload_n dX16_act_137 rfl rfl ?_
                    refine ks_sipush (x := nI 136) dX16_act_138 (by decide) rfl ?_
                    refine ks_icmp_neN (tgt := 257) (by omega) (by decide) dX16_act_141 (by decide) rfl (fun hc141 => ?_) (fun hc141 => ?_)
                    · refine ks_iload_n dX16_act_257 rfl rfl ?_
                      refine ks_bipush (x := nI 97) dX16_act_258 (by decide) rfl ?_
                      refine ks_icmp_eqN (tgt := 268) (by omega) (by decide) dX16_act_260 (by decide) rfl (fun hc260 => ?_) (fun hc260 => ?_)
                      · refine ks_ret rfl dX16_act_268 ?_
                        obtain ⟨e1, e2⟩ := oe_pf (GD := (gdF Gp G9 L b k p m u e inp)) (LK := (lkB G9 L p e inp)) (op := op) (ops := ops) (xs := xs) (ys := ys) (c := bytL gc pb (pe - pb)) (by omega)
                        rw [if_neg (show ¬ op ≤ 78 by omega), e1, e2, show opB op nx pb = pb from if_neg (by omega)]
                        have h97 : op = 97 := by omega
                        subst h97
                        exact ⟨rfl, ⟨V, F, xs, ys, mqJ.rf S V F, hM, .inl ⟨v74, rfl, v80, v82⟩⟩⟩
                      · refine ks_aload_n dX16_act_263 rfl rfl ?_
                        refine ks_iconst (x := nI 1) dX16_act_264 (by decide) rfl ?_
                        refine ks_putf (T := TX16) (kf := 74) kx_2442 rfl in_X16 tyX16_ok nmX16 cl_X16 (by decide) hO (Nat.le_of_ble_eq_true rfl) rfl rfl rfl rfl dX16_act_265 rfl ?_
                        refine md_put mdp_74 ?_
                        refine ks_ret rfl dX16_act_268 ?_
                        obtain ⟨e1, e2⟩ := oe_pf (GD := (gdF Gp G9 L b k p m u e inp)) (LK := (lkB G9 L p e inp)) (op := op) (ops := ops) (xs := xs) (ys := ys) (c := bytL gc pb (pe - pb)) (by omega)
                        rw [if_neg (show ¬ op ≤ 78 by omega), e1, e2, show opB op nx pb = pb from if_neg (by omega)]
                        exact ⟨rfl, mqA.bad ((mqJ.rf S V F).put (by decide)) (hM.put hT9 (by decide)) (va_up_self _ _ _) (pf_no (by omega))⟩
                    · refine ks_aload_n dX16_act_144 rfl rfl ?_
                      refine ks_iconst (x := nI 2) dX16_act_145 (by decide) rfl ?_
                      refine ks_callV (n := 1) (M' := mX16_need) (c_rs_need (d := d + 9) hO hK (n := 2) (by decide)) hO cl_X16 rfl kx_2165 kx_2167 kxp_87 kx_30 kx_2168 (by decide +kernel) rfl (by decide) (Nat.le_of_ble_eq_true rfl) rfl dX16_act_146 rfl (fun z3 S3 y3 => ?_)
                      obtain ⟨rfl, y3a, y3b⟩ := y3
                      by_cases c0 : 2 ≤ xs.length
                      · obtain rfl := (y3a c0).symm
                        rw [decide_eq_true c0]
                        obtain ⟨T, sz, oz, vz, hK', eF, gS, kS, h367⟩ := id hK
                        obtain ⟨hT, ⟨h362, h364, h366⟩, -, -, hx, -⟩ := id hK'
                        obtain ⟨r1, g1, a1, a2, a3, a4, a5⟩ := hx (xs.length - 1) (by omega)
                        rw [Nat.sub_self] at a5
                        obtain ⟨r2, g2, b1, b2, b3, b4, b5⟩ := hx (xs.length - 2) (by omega)
                        rw [show xs.length - 1 - (xs.length - 2) = 1 by omega] at b5
                        obtain ⟨n1, en1⟩ : ∃ n, n = sz (xs.length - 1) := ⟨_, rfl⟩
                        obtain ⟨n2, en2⟩ : ∃ n, n = sz (xs.length - 2) := ⟨_, rfl⟩
                        rw [← en1] at a4 a5
                        rw [← en2] at b4 b5
                        have esm : (xs.getD 0 [] = xs.getD 1 []) ↔ n1 = n2 ∧ ∀ q, q < n1 → g1 (0 + q) = g2 (0 + q) := by rw [a5, b5]; exact bytL_ext
                        refine ks_if_neZ (tgt := 153) dX16_act_149 (by decide) rfl (fun hc149 => ?_) (fun hc149 => ?_)
                        · refine ks_aload_n dX16_act_153 rfl rfl ?_
                          refine ks_getf (T := TX16) (kf := 66) kx_2434 rfl in_X16 cl_X16 (by decide) hO rfl dX16_act_154 rfl ?_
                          refine ks_aload_n dX16_act_157 rfl rfl ?_
                          refine ks_getf (T := TX16) (kf := 67) kx_2435 rfl in_X16 cl_X16 (by decide) hO rfl dX16_act_158 rfl ?_
                          refine ks_tv v67 ?_
                          refine ks_iconst (x := nI 1) dX16_act_161 (by decide) rfl ?_
                          refine ks_subN (by omega) dX16_act_162 rfl ?_
                          refine ks_ialdN (i := xs.length - 1) h362 rfl (by omega) (by decide) dX16_act_163 rfl ?_
                          rw [← en1]
                          refine ks_aload_n dX16_act_164 rfl rfl ?_
                          refine ks_getf (T := TX16) (kf := 66) kx_2434 rfl in_X16 cl_X16 (by decide) hO rfl dX16_act_165 rfl ?_
                          refine ks_aload_n dX16_act_168 rfl rfl ?_
                          refine ks_getf (T := TX16) (kf := 67) kx_2435 rfl in_X16 cl_X16 (by decide) hO rfl dX16_act_169 rfl ?_
                          refine ks_tv v67 ?_
                          refine ks_iconst (x := nI 2) dX16_act_172 (by decide) rfl ?_
                          refine ks_subN (by omega) dX16_act_173 rfl ?_
                          refine ks_ialdN (i := xs.length - 2) h362 rfl (by omega) (by decide) dX16_act_174 rfl ?_
                          rw [← en2]
                          refine ks_icmp_neN (tgt := 223) (by omega) (by omega) dX16_act_175 (by decide) rfl (fun hc175 => ?_) (fun hc175 => ?_)
                          · refine ks_iconst (x := nI 0) dX16_act_223 (by decide) rfl ?_
                            have hs : ¬ xs.getD 0 [] = xs.getD 1 [] := fun h => hc175 (esm.mp h).1
                            obtain ⟨Q8, m8⟩ := rsQ.pop (k := 2) hO hK
                            have M8 := hM.ms hT9 m8 Q8
                            have l8 : (xs.drop 2).length ≤ 1000 := by rw [List.length_drop]; omega
                            refine ks_istore dX16_act_224 (by decide) rfl ?_
                            refine ks_sub [(4, _), (0, _), (1, _), (2, _), (3, _)] rfl ?_
                            refine ks_aload_n dX16_act_226 rfl rfl ?_
                            refine ks_dup dX16_act_227 rfl rfl ?_
                            refine ks_getf (T := TX16) (kf := 67) kx_2435 rfl in_X16 cl_X16 (by decide) hO rfl dX16_act_228 rfl ?_
                            refine ks_tv v67 ?_
                            refine ks_iconst (x := nI 2) dX16_act_231 (by decide) rfl ?_
                            refine ks_subN (by omega) dX16_act_232 rfl ?_
                            refine ks_putf (T := TX16) (kf := 67) kx_2435 rfl in_X16 tyX16_ok nmX16 cl_X16 (by decide) hO (Nat.le_of_ble_eq_true rfl) rfl rfl rfl rfl dX16_act_233 rfl ?_
                            refine md_put mdp_67 ?_
                            refine ks_aload_n dX16_act_236 rfl rfl ?_
                            refine ks_iload dX16_act_237 rfl rfl ?_
                            refine ks_iload_n dX16_act_239 rfl rfl ?_
                            refine ks_sipush (x := nI 136) dX16_act_240 (by decide) rfl ?_
                            refine ks_icmp_neN (tgt := 250) (by omega) (by decide) dX16_act_243 (by decide) rfl (fun h9 => ?_) (fun h9 => ?_)
                            · omega
                            · refine ks_iconst (x := nI 1) dX16_act_246 (by decide) rfl ?_
                              refine ks_goto (tgt := 251) dX16_act_247 (by decide) ?_
                              refine ks_callV (n := 2) (M' := mX16_answer) (c_rs_answer (d := d + 5) M8.1 M8.2.1 (b := false) (v := true) l8 ((va_up_ne _ _ (by decide)).trans v74)) (ks_set_same _ _ _) cl_X16 rfl kx_2204 kx_2206 kxp_96 kx_30 kx_2207 (by decide +kernel) rfl (by decide) (Nat.le_of_ble_eq_true rfl) rfl dX16_act_251 rfl (fun z9 S9 y9 => ?_)
                              obtain ⟨rfl, hr⟩ := y9
                              refine ks_goto (tgt := 268) dX16_act_254 (by decide) ?_
                              refine ks_ret rfl dX16_act_268 ?_
                              have hk9 : op = 136 := by omega
                              subst hk9
                              have hc9 : cmS xs ys = some (flagL false :: xs.drop 2, ys) := by
                                unfold cmS
                                rw [if_neg (by omega), decide_eq_false hs]
                              rw [if_neg (by decide), show opB 136 nx pb = pb from rfl, show opO 136 xs ops = ops from rfl]
                              rw [show opE (gdF Gp G9 L b k p m u e inp) (lkB G9 L p e inp) 136 xs ys ops (bytL gc pb (pe - pb)) = (match cmS xs ys with | some q => vfS q.1 q.2 | none => none) from rfl, hc9]
                              rw [show (match some (flagL false :: xs.drop 2, ys) with | some q => vfS q.1 q.2 | none => none) = vfS (flagL false :: xs.drop 2) ys from rfl, vf_flag]
                              exact ⟨rfl, ((hr.mq M8 hT9).A ((va_up_ne _ _ (by decide)).trans v80) ((va_up_ne _ _ (by decide)).trans v82)).after (mqK.ms m8).j⟩
                          · refine ks_aload_n dX16_act_178 rfl rfl ?_
                            refine ks_getf (T := TX16) (kf := 65) kx_2433 rfl in_X16 cl_X16 (by decide) hO rfl dX16_act_179 rfl ?_
                            refine ks_aload_n dX16_act_182 rfl rfl ?_
                            refine ks_getf (T := TX16) (kf := 67) kx_2435 rfl in_X16 cl_X16 (by decide) hO rfl dX16_act_183 rfl ?_
                            refine ks_tv v67 ?_
                            refine ks_iconst (x := nI 1) dX16_act_186 (by decide) rfl ?_
                            refine ks_subN (by omega) dX16_act_187 rfl ?_
                            refine ks_aaldN (i := xs.length - 1) (b := r1) (by decide) (hT.1 0 (by decide)) rfl (by omega) (by decide) a1 dX16_act_188 rfl ?_
                            refine ks_iconst (x := nI 0) dX16_act_189 (by decide) rfl ?_
                            refine ks_aload_n dX16_act_190 rfl rfl ?_
                            refine ks_getf (T := TX16) (kf := 65) kx_2433 rfl in_X16 cl_X16 (by decide) hO rfl dX16_act_191 rfl ?_
                            refine ks_aload_n dX16_act_194 rfl rfl ?_
                            refine ks_getf (T := TX16) (kf := 67) kx_2435 rfl in_X16 cl_X16 (by decide) hO rfl dX16_act_195 rfl ?_
                            refine ks_tv v67 ?_
                            refine ks_iconst (x := nI 2) dX16_act_198 (by decide) rfl ?_
                            refine ks_subN (by omega) dX16_act_199 rfl ?_
                            refine ks_aaldN (i := xs.length - 2) (b := r2) (by decide) (hT.1 0 (by decide)) rfl (by omega) (by decide) b1 dX16_act_200 rfl ?_
                            refine ks_iconst (x := nI 0) dX16_act_201 (by decide) rfl ?_
                            refine ks_aload_n dX16_act_202 rfl rfl ?_
                            refine ks_getf (T := TX16) (kf := 66) kx_2434 rfl in_X16 cl_X16 (by decide) hO rfl dX16_act_203 rfl ?_
                            refine ks_aload_n dX16_act_206 rfl rfl ?_
                            refine ks_getf (T := TX16) (kf := 67) kx_2435 rfl in_X16 cl_X16 (by decide) hO rfl dX16_act_207 rfl ?_
                            refine ks_tv v67 ?_
                            refine ks_iconst (x := nI 1) dX16_act_210 (by decide) rfl ?_
                            refine ks_subN (by omega) dX16_act_211 rfl ?_
                            refine ks_ialdN (i := xs.length - 1) h362 rfl (by omega) (by decide) dX16_act_212 rfl ?_
                            rw [← en1]
                            refine ks_callS (n := 5) (M' := mX16_alike) (c_md_alike (d := d + 9) a2 a3 b2 b3 (i := 0) (k := 0) (n := n1) (by omega) (by omega) (by decide) (by decide)) kx_2134 kx_2135 kx_30 kx_2136 (by decide +kernel) rfl (by decide) (Nat.le_of_ble_eq_true rfl) rfl dX16_act_213 rfl (fun z5 S5 y5 => ?_)
                            obtain ⟨rfl, hT5⟩ := y5
                            obtain rfl := hT5.symm
                            refine ks_if_eqZ (tgt := 223) dX16_act_216 (by decide) rfl (fun hc216 => ?_) (fun hc216 => ?_)
                            · refine ks_iconst (x := nI 0) dX16_act_223 (by decide) rfl ?_
                              have hs : ¬ xs.getD 0 [] = xs.getD 1 [] := fun h => absurd (decide_eq_true (esm.mp h).2) (by rw [hc216]; decide)
                              obtain ⟨Q8, m8⟩ := rsQ.pop (k := 2) hO hK
                              have M8 := hM.ms hT9 m8 Q8
                              have l8 : (xs.drop 2).length ≤ 1000 := by rw [List.length_drop]; omega
                              refine ks_istore dX16_act_224 (by decide) rfl ?_
                              refine ks_sub [(4, _), (0, _), (1, _), (2, _), (3, _)] rfl ?_
                              refine ks_aload_n dX16_act_226 rfl rfl ?_
                              refine ks_dup dX16_act_227 rfl rfl ?_
                              refine ks_getf (T := TX16) (kf := 67) kx_2435 rfl in_X16 cl_X16 (by decide) hO rfl dX16_act_228 rfl ?_
                              refine ks_tv v67 ?_
                              refine ks_iconst (x := nI 2) dX16_act_231 (by decide) rfl ?_
                              refine ks_subN (by omega) dX16_act_232 rfl ?_
                              refine ks_putf (T := TX16) (kf := 67) kx_2435 rfl in_X16 tyX16_ok nmX16 cl_X16 (by decide) hO (Nat.le_of_ble_eq_true rfl) rfl rfl rfl rfl dX16_act_233 rfl ?_
                              refine md_put mdp_67 ?_
                              refine ks_aload_n dX16_act_236 rfl rfl ?_
                              refine ks_iload dX16_act_237 rfl rfl ?_
                              refine ks_iload_n dX16_act_239 rfl rfl ?_
                              refine ks_sipush (x := nI 136) dX16_act_240 (by decide) rfl ?_
                              refine ks_icmp_neN (tgt := 250) (by omega) (by decide) dX16_act_243 (by decide) rfl (fun h9 => ?_) (fun h9 => ?_)
                              · omega
                              · refine ks_iconst (x := nI 1) dX16_act_246 (by decide) rfl ?_
                                refine ks_goto (tgt := 251) dX16_act_247 (by decide) ?_
                                refine ks_callV (n := 2) (M' := mX16_answer) (c_rs_answer (d := d + 5) M8.1 M8.2.1 (b := false) (v := true) l8 ((va_up_ne _ _ (by decide)).trans v74)) (ks_set_same _ _ _) cl_X16 rfl kx_2204 kx_2206 kxp_96 kx_30 kx_2207 (by decide +kernel) rfl (by decide) (Nat.le_of_ble_eq_true rfl) rfl dX16_act_251 rfl (fun z9 S9 y9 => ?_)
                                obtain ⟨rfl, hr⟩ := y9
                                refine ks_goto (tgt := 268) dX16_act_254 (by decide) ?_
                                refine ks_ret rfl dX16_act_268 ?_
                                have hk9 : op = 136 := by omega
                                subst hk9
                                have hc9 : cmS xs ys = some (flagL false :: xs.drop 2, ys) := by
                                  unfold cmS
                                  rw [if_neg (by omega), decide_eq_false hs]
                                rw [if_neg (by decide), show opB 136 nx pb = pb from rfl, show opO 136 xs ops = ops from rfl]
                                rw [show opE (gdF Gp G9 L b k p m u e inp) (lkB G9 L p e inp) 136 xs ys ops (bytL gc pb (pe - pb)) = (match cmS xs ys with | some q => vfS q.1 q.2 | none => none) from rfl, hc9]
                                rw [show (match some (flagL false :: xs.drop 2, ys) with | some q => vfS q.1 q.2 | none => none) = vfS (flagL false :: xs.drop 2) ys from rfl, vf_flag]
                                exact ⟨rfl, ((hr.mq M8 hT9).A ((va_up_ne _ _ (by decide)).trans v80) ((va_up_ne _ _ (by decide)).trans v82)).after (mqK.ms m8).j⟩
                            · refine ks_iconst (x := nI 1) dX16_act_219 (by decide) rfl ?_
                              refine ks_goto (tgt := 224) dX16_act_220 (by decide) ?_
                              have hs : xs.getD 0 [] = xs.getD 1 [] := esm.mpr ⟨by omega, of_decide_eq_true hc216⟩
                              obtain ⟨Q8, m8⟩ := rsQ.pop (k := 2) hO hK
                              have M8 := hM.ms hT9 m8 Q8
                              have l8 : (xs.drop 2).length ≤ 1000 := by rw [List.length_drop]; omega
                              refine ks_istore dX16_act_224 (by decide) rfl ?_
                              refine ks_sub [(4, _), (0, _), (1, _), (2, _), (3, _)] rfl ?_
                              refine ks_aload_n dX16_act_226 rfl rfl ?_
                              refine ks_dup dX16_act_227 rfl rfl ?_
                              refine ks_getf (T := TX16) (kf := 67) kx_2435 rfl in_X16 cl_X16 (by decide) hO rfl dX16_act_228 rfl ?_
                              refine ks_tv v67 ?_
                              refine ks_iconst (x := nI 2) dX16_act_231 (by decide) rfl ?_
                              refine ks_subN (by omega) dX16_act_232 rfl ?_
                              refine ks_putf (T := TX16) (kf := 67) kx_2435 rfl in_X16 tyX16_ok nmX16 cl_X16 (by decide) hO (Nat.le_of_ble_eq_true rfl) rfl rfl rfl rfl dX16_act_233 rfl ?_
                              refine md_put mdp_67 ?_
                              refine ks_aload_n dX16_act_236 rfl rfl ?_
                              refine ks_iload dX16_act_237 rfl rfl ?_
                              refine ks_iload_n dX16_act_239 rfl rfl ?_
                              refine ks_sipush (x := nI 136) dX16_act_240 (by decide) rfl ?_
                              refine ks_icmp_neN (tgt := 250) (by omega) (by decide) dX16_act_243 (by decide) rfl (fun h9 => ?_) (fun h9 => ?_)
                              · omega
                              · refine ks_iconst (x := nI 1) dX16_act_246 (by decide) rfl ?_
                                refine ks_goto (tgt := 251) dX16_act_247 (by decide) ?_
                                refine ks_callV (n := 2) (M' := mX16_answer) (c_rs_answer (d := d + 5) M8.1 M8.2.1 (b := true) (v := true) l8 ((va_up_ne _ _ (by decide)).trans v74)) (ks_set_same _ _ _) cl_X16 rfl kx_2204 kx_2206 kxp_96 kx_30 kx_2207 (by decide +kernel) rfl (by decide) (Nat.le_of_ble_eq_true rfl) rfl dX16_act_251 rfl (fun z9 S9 y9 => ?_)
                                obtain ⟨rfl, hr⟩ := y9
                                refine ks_goto (tgt := 268) dX16_act_254 (by decide) ?_
                                refine ks_ret rfl dX16_act_268 ?_
                                have hk9 : op = 136 := by omega
                                subst hk9
                                have hc9 : cmS xs ys = some (flagL true :: xs.drop 2, ys) := by
                                  unfold cmS
                                  rw [if_neg (by omega), decide_eq_true hs]
                                rw [if_neg (by decide), show opB 136 nx pb = pb from rfl, show opO 136 xs ops = ops from rfl]
                                rw [show opE (gdF Gp G9 L b k p m u e inp) (lkB G9 L p e inp) 136 xs ys ops (bytL gc pb (pe - pb)) = (match cmS xs ys with | some q => vfS q.1 q.2 | none => none) from rfl, hc9]
                                rw [show (match some (flagL true :: xs.drop 2, ys) with | some q => vfS q.1 q.2 | none => none) = vfS (flagL true :: xs.drop 2) ys from rfl, vf_flag]
                                exact ⟨rfl, ((hr.mq M8 hT9).A ((va_up_ne _ _ (by decide)).trans v80) ((va_up_ne _ _ (by decide)).trans v82)).after (mqK.ms m8).j⟩
                        · exact absurd hc149 (by decide)
                      · obtain rfl := (y3b c0).symm
                        rw [decide_eq_false c0]
                        refine ks_if_neZ (tgt := 153) dX16_act_149 (by decide) rfl (fun hc149 => ?_) (fun hc149 => ?_)
                        · exact absurd hc149 (by decide)
                        · refine ks_ret rfl dX16_act_152 ?_
                          obtain ⟨e1, e2⟩ := oe_pf (GD := (gdF Gp G9 L b k p m u e inp)) (LK := (lkB G9 L p e inp)) (op := op) (ops := ops) (xs := xs) (ys := ys) (c := bytL gc pb (pe - pb)) (by omega)
                          rw [if_neg (show ¬ op ≤ 78 by omega), e1, e2, show opB op nx pb = pb from if_neg (by omega)]
                          exact ⟨rfl, mqA.bad ((mqJ.rf S V F).put (by decide)) (hM.put hT9 (by decide)) (va_up_self _ _ _) (by
                            have hcm : cmS xs ys = none := if_pos (by omega)
                            rcases (show op = 135 ∨ op = 136 by omega) with rfl | rfl
                            · exact hcm
                            · show (match cmS xs ys with | some q => vfS q.1 q.2 | none => none) = none
                              rw [hcm])⟩
                · refine ks_aload_n dX16_act_103 rfl rfl ?_
                  refine ks_iconst (x := nI 1) dX16_act_104 (by decide) rfl ?_
                  refine ks_callV (n := 1) (M' := mX16_need) (c_rs_need (d := d + 9) hO hK (n := 1) (by decide)) hO cl_X16 rfl kx_2165 kx_2167 kxp_87 kx_30 kx_2168 (by decide +kernel) rfl (by decide) (Nat.le_of_ble_eq_true rfl) rfl dX16_act_105 rfl (fun z3 S3 y3 => ?_)
                  obtain ⟨rfl, y3a, y3b⟩ := y3
                  by_cases c0 : 1 ≤ xs.length
                  · obtain rfl := (y3a c0).symm
                    rw [decide_eq_true c0]
                    obtain ⟨T, sz, oz, vz, hK', eF, gS, kS, h367⟩ := id hK
                    obtain ⟨hT, ⟨h362, h364, h366⟩, -, -, hx, -⟩ := id hK'
                    obtain ⟨r1, g1, a1, a2, a3, a4, a5⟩ := hx (xs.length - 1) (by omega)
                    rw [Nat.sub_self] at a5
                    have l0 : (xs.getD 0 []).length = sz (xs.length - 1) := by rw [a5, bytL_len]
                    refine ks_if_eqZ (tgt := 268) dX16_act_108 (by decide) rfl (fun hc108 => ?_) (fun hc108 => ?_)
                    · exact absurd hc108 (by decide)
                    · refine ks_aload_n dX16_act_111 rfl rfl ?_
                      refine ks_aload_n dX16_act_112 rfl rfl ?_
                      refine ks_getf (T := TX16) (kf := 66) kx_2434 rfl in_X16 cl_X16 (by decide) hO rfl dX16_act_113 rfl ?_
                      refine ks_aload_n dX16_act_116 rfl rfl ?_
                      refine ks_getf (T := TX16) (kf := 67) kx_2435 rfl in_X16 cl_X16 (by decide) hO rfl dX16_act_117 rfl ?_
                      refine ks_tv v67 ?_
                      refine ks_iconst (x := nI 1) dX16_act_120 (by decide) rfl ?_
                      refine ks_subN (by omega) dX16_act_121 rfl ?_
                      refine ks_ialdN (i := xs.length - 1) h362 rfl (by omega) (by decide) dX16_act_122 rfl ?_
                      refine ks_i2lN (by omega) dX16_act_123 rfl ?_
                      refine ks_tl (y := iL (((xs.getD 0 []).length : Nat) : Int)) (by rw [l0]; rfl) ?_
                      refine ks_callV (n := 1) (M' := mX16_pushNumber) (c_rs_pushNumber (d := d + 7) hO hK (v := (((xs.getD 0 []).length : Nat) : Int)) (by rw [l0]; omega)) hO cl_X16 rfl kx_2184 kx_2186 kxp_91 kx_30 kx_2187 (by decide +kernel) rfl (by decide) (Nat.le_of_ble_eq_true rfl) rfl dX16_act_124 rfl (fun z4 S4 y4 => ?_)
                      obtain ⟨rfl, hr⟩ := y4
                      refine ks_goto (tgt := 268) dX16_act_127 (by decide) ?_
                      refine ks_ret rfl dX16_act_268 ?_
                      have h130 : op = 130 := by omega
                      subst h130
                      rw [if_neg (by decide), show opE (gdF Gp G9 L b k p m u e inp) (lkB G9 L p e inp) 130 xs ys ops (bytL gc pb (pe - pb)) = (if xs.length = 0 then none else some (numI ((xs.getD 0 []).length : Nat) :: xs, ys)) from rfl, if_neg (by omega), show opB 130 nx pb = pb from rfl, show opO 130 xs ops = ops from rfl]
                      exact ⟨rfl, ((hr.op (by omega) v74).mq hM hT9).A v80 v82⟩
                  · obtain rfl := (y3b c0).symm
                    rw [decide_eq_false c0]
                    refine ks_if_eqZ (tgt := 268) dX16_act_108 (by decide) rfl (fun hc108 => ?_) (fun hc108 => ?_)
                    · refine ks_ret rfl dX16_act_268 ?_
                      obtain ⟨e1, e2⟩ := oe_pf (GD := (gdF Gp G9 L b k p m u e inp)) (LK := (lkB G9 L p e inp)) (op := op) (ops := ops) (xs := xs) (ys := ys) (c := bytL gc pb (pe - pb)) (by omega)
                      rw [if_neg (show ¬ op ≤ 78 by omega), e1, e2, show opB op nx pb = pb from if_neg (by omega)]
                      exact ⟨rfl, mqA.bad ((mqJ.rf S V F).put (by decide)) (hM.put hT9 (by decide)) (va_up_self _ _ _) (by
                        have h130 : op = 130 := by omega
                        subst h130
                        show (if xs.length = 0 then none else _) = none
                        rw [if_pos (by omega)])⟩
                    · exact absurd hc108 (by decide)
              · refine ks_iload_n dX16_act_82 rfl rfl ?_
                refine ks_bipush (x := nI 106) dX16_act_83 (by decide) rfl ?_
                refine ks_icmp_eqN (tgt := 96) (by omega) (by decide) dX16_act_85 (by decide) rfl (fun hc85 => ?_) (fun hc85 => ?_)
                · refine ks_iload_n dX16_act_96 rfl rfl ?_
                  refine ks_sipush (x := nI 130) dX16_act_97 (by decide) rfl ?_
                  refine ks_icmp_neN (tgt := 130) (by omega) (by decide) dX16_act_100 (by decide) rfl (fun hc100 => ?_) (fun hc100 => ?_)
                  · refine ks_iload_n dX16_act_130 rfl rfl ?_
                    refine ks_sipush (x := nI 135) dX16_act_131 (by decide) rfl ?_
                    refine ks_icmp_eqN (tgt := 144) (by omega) (by decide) dX16_act_134 (by decide) rfl (fun hc134 => ?_) (fun hc134 => ?_)
                    · refine ks_aload_n dX16_act_144 rfl rfl ?_
                      refine ks_iconst (x := nI 2) dX16_act_145 (by decide) rfl ?_
                      refine ks_callV (n := 1) (M' := mX16_need) (c_rs_need (d := d + 9) hO hK (n := 2) (by decide)) hO cl_X16 rfl kx_2165 kx_2167 kxp_87 kx_30 kx_2168 (by decide +kernel) rfl (by decide) (Nat.le_of_ble_eq_true rfl) rfl dX16_act_146 rfl (fun z3 S3 y3 => ?_)
                      obtain ⟨rfl, y3a, y3b⟩ := y3
                      by_cases c0 : 2 ≤ xs.length
                      · obtain rfl := (y3a c0).symm
                        rw [decide_eq_true c0]
                        obtain ⟨T, sz, oz, vz, hK', eF, gS, kS, h367⟩ := id hK
                        obtain ⟨hT, ⟨h362, h364, h366⟩, -, -, hx, -⟩ := id hK'
                        obtain ⟨r1, g1, a1, a2, a3, a4, a5⟩ := hx (xs.length - 1) (by omega)
                        rw [Nat.sub_self] at a5
                        obtain ⟨r2, g2, b1, b2, b3, b4, b5⟩ := hx (xs.length - 2) (by omega)
                        rw [show xs.length - 1 - (xs.length - 2) = 1 by omega] at b5
                        obtain ⟨n1, en1⟩ : ∃ n, n = sz (xs.length - 1) := ⟨_, rfl⟩
                        obtain ⟨n2, en2⟩ : ∃ n, n = sz (xs.length - 2) := ⟨_, rfl⟩
                        rw [← en1] at a4 a5
                        rw [← en2] at b4 b5
                        have esm : (xs.getD 0 [] = xs.getD 1 []) ↔ n1 = n2 ∧ ∀ q, q < n1 → g1 (0 + q) = g2 (0 + q) := by rw [a5, b5]; exact bytL_ext
                        refine ks_if_neZ (tgt := 153) dX16_act_149 (by decide) rfl (fun hc149 => ?_) (fun hc149 => ?_)
                        · refine ks_aload_n dX16_act_153 rfl rfl ?_
                          refine ks_getf (T := TX16) (kf := 66) kx_2434 rfl in_X16 cl_X16 (by decide) hO rfl dX16_act_154 rfl ?_
                          refine ks_aload_n dX16_act_157 rfl rfl ?_
                          refine ks_getf (T := TX16) (kf := 67) kx_2435 rfl in_X16 cl_X16 (by decide) hO rfl dX16_act_158 rfl ?_
                          refine ks_tv v67 ?_
                          refine ks_iconst (x := nI 1) dX16_act_161 (by decide) rfl ?_
                          refine ks_subN (by omega) dX16_act_162 rfl ?_
                          refine ks_ialdN (i := xs.length - 1) h362 rfl (by omega) (by decide) dX16_act_163 rfl ?_
                          rw [← en1]
                          refine ks_aload_n dX16_act_164 rfl rfl ?_
                          refine ks_getf (T := TX16) (kf := 66) kx_2434 rfl in_X16 cl_X16 (by decide) hO rfl dX16_act_165 rfl ?_
                          refine ks_aload_n dX16_act_168 rfl rfl ?_
                          refine ks_getf (T := TX16) (kf := 67) kx_2435 rfl in_X16 cl_X16 (by decide) hO rfl dX16_act_169 rfl ?_
                          refine ks_tv v67 ?_
                          refine ks_iconst (x := nI 2) dX16_act_172 (by decide) rfl ?_
                          refine ks_subN (by omega) dX16_act_173 rfl ?_
                          refine ks_ialdN (i := xs.length - 2) h362 rfl (by omega) (by decide) dX16_act_174 rfl ?_
                          rw [← en2]
                          refine ks_icmp_neN (tgt := 223) (by omega) (by omega) dX16_act_175 (by decide) rfl (fun hc175 => ?_) (fun hc175 => ?_)
                          · refine ks_iconst (x := nI 0) dX16_act_223 (by decide) rfl ?_
                            have hs : ¬ xs.getD 0 [] = xs.getD 1 [] := fun h => hc175 (esm.mp h).1
                            obtain ⟨Q8, m8⟩ := rsQ.pop (k := 2) hO hK
                            have M8 := hM.ms hT9 m8 Q8
                            have l8 : (xs.drop 2).length ≤ 1000 := by rw [List.length_drop]; omega
                            refine ks_istore dX16_act_224 (by decide) rfl ?_
                            refine ks_sub [(4, _), (0, _), (1, _), (2, _), (3, _)] rfl ?_
                            refine ks_aload_n dX16_act_226 rfl rfl ?_
                            refine ks_dup dX16_act_227 rfl rfl ?_
                            refine ks_getf (T := TX16) (kf := 67) kx_2435 rfl in_X16 cl_X16 (by decide) hO rfl dX16_act_228 rfl ?_
                            refine ks_tv v67 ?_
                            refine ks_iconst (x := nI 2) dX16_act_231 (by decide) rfl ?_
                            refine ks_subN (by omega) dX16_act_232 rfl ?_
                            refine ks_putf (T := TX16) (kf := 67) kx_2435 rfl in_X16 tyX16_ok nmX16 cl_X16 (by decide) hO (Nat.le_of_ble_eq_true rfl) rfl rfl rfl rfl dX16_act_233 rfl ?_
                            refine md_put mdp_67 ?_
                            refine ks_aload_n dX16_act_236 rfl rfl ?_
                            refine ks_iload dX16_act_237 rfl rfl ?_
                            refine ks_iload_n dX16_act_239 rfl rfl ?_
                            refine ks_sipush (x := nI 136) dX16_act_240 (by decide) rfl ?_
                            refine ks_icmp_neN (tgt := 250) (by omega) (by decide) dX16_act_243 (by decide) rfl (fun h9 => ?_) (fun h9 => ?_)
                            · refine ks_iconst (x := nI 0) dX16_act_250 (by decide) rfl ?_
                              refine ks_callV (n := 2) (M' := mX16_answer) (c_rs_answer (d := d + 5) M8.1 M8.2.1 (b := false) (v := false) l8 ((va_up_ne _ _ (by decide)).trans v74)) (ks_set_same _ _ _) cl_X16 rfl kx_2204 kx_2206 kxp_96 kx_30 kx_2207 (by decide +kernel) rfl (by decide) (Nat.le_of_ble_eq_true rfl) rfl dX16_act_251 rfl (fun z9 S9 y9 => ?_)
                              obtain ⟨rfl, hr⟩ := y9
                              refine ks_goto (tgt := 268) dX16_act_254 (by decide) ?_
                              refine ks_ret rfl dX16_act_268 ?_
                              have hk9 : op = 135 := by omega
                              subst hk9
                              have hc9 : cmS xs ys = some (flagL false :: xs.drop 2, ys) := by
                                unfold cmS
                                rw [if_neg (by omega), decide_eq_false hs]
                              rw [if_neg (by decide), show opB 135 nx pb = pb from rfl, show opO 135 xs ops = ops from rfl]
                              rw [show opE (gdF Gp G9 L b k p m u e inp) (lkB G9 L p e inp) 135 xs ys ops (bytL gc pb (pe - pb)) = cmS xs ys from rfl, hc9]
                              exact ⟨rfl, ((hr.mq M8 hT9).A ((va_up_ne _ _ (by decide)).trans v80) ((va_up_ne _ _ (by decide)).trans v82)).after (mqK.ms m8).j⟩
                            · refine ks_iconst (x := nI 1) dX16_act_246 (by decide) rfl ?_
                              refine ks_goto (tgt := 251) dX16_act_247 (by decide) ?_
                              refine ks_callV (n := 2) (M' := mX16_answer) (c_rs_answer (d := d + 5) M8.1 M8.2.1 (b := false) (v := true) l8 ((va_up_ne _ _ (by decide)).trans v74)) (ks_set_same _ _ _) cl_X16 rfl kx_2204 kx_2206 kxp_96 kx_30 kx_2207 (by decide +kernel) rfl (by decide) (Nat.le_of_ble_eq_true rfl) rfl dX16_act_251 rfl (fun z9 S9 y9 => ?_)
                              obtain ⟨rfl, hr⟩ := y9
                              refine ks_goto (tgt := 268) dX16_act_254 (by decide) ?_
                              refine ks_ret rfl dX16_act_268 ?_
                              have hk9 : op = 136 := by omega
                              subst hk9
                              have hc9 : cmS xs ys = some (flagL false :: xs.drop 2, ys) := by
                                unfold cmS
                                rw [if_neg (by omega), decide_eq_false hs]
                              rw [if_neg (by decide), show opB 136 nx pb = pb from rfl, show opO 136 xs ops = ops from rfl]
                              rw [show opE (gdF Gp G9 L b k p m u e inp) (lkB G9 L p e inp) 136 xs ys ops (bytL gc pb (pe - pb)) = (match cmS xs ys with | some q => vfS q.1 q.2 | none => none) from rfl, hc9]
                              rw [show (match some (flagL false :: xs.drop 2, ys) with | some q => vfS q.1 q.2 | none => none) = vfS (flagL false :: xs.drop 2) ys from rfl, vf_flag]
                              exact ⟨rfl, ((hr.mq M8 hT9).A ((va_up_ne _ _ (by decide)).trans v80) ((va_up_ne _ _ (by decide)).trans v82)).after (mqK.ms m8).j⟩
                          · refine ks_aload_n dX16_act_178 rfl rfl ?_
                            refine ks_getf (T := TX16) (kf := 65) kx_2433 rfl in_X16 cl_X16 (by decide) hO rfl dX16_act_179 rfl ?_
                            refine ks_aload_n dX16_act_182 rfl rfl ?_
                            refine ks_getf (T := TX16) (kf := 67) kx_2435 rfl in_X16 cl_X16 (by decide) hO rfl dX16_act_183 rfl ?_
                            refine ks_tv v67 ?_
                            refine ks_iconst (x := nI 1) dX16_act_186 (by decide) rfl ?_
                            refine ks_subN (by omega) dX16_act_187 rfl ?_
                            refine ks_aaldN (i := xs.length - 1) (b := r1) (by decide) (hT.1 0 (by decide)) rfl (by omega) (by decide) a1 dX16_act_188 rfl ?_
                            refine ks_iconst (x := nI 0) dX16_act_189 (by decide) rfl ?_
                            refine ks_aload_n dX16_act_190 rfl rfl ?_
                            refine ks_getf (T := TX16) (kf := 65) kx_2433 rfl in_X16 cl_X16 (by decide) hO rfl dX16_act_191 rfl ?_
                            refine ks_aload_n dX16_act_194 rfl rfl ?_
                            refine ks_getf (T := TX16) (kf := 67) kx_2435 rfl in_X16 cl_X16 (by decide) hO rfl dX16_act_195 rfl ?_
                            refine ks_tv v67 ?_
                            refine ks_iconst (x := nI 2) dX16_act_198 (by decide) rfl ?_
                            refine ks_subN (by omega) dX16_act_199 rfl ?_
                            refine ks_aaldN (i := xs.length - 2) (b := r2) (by decide) (hT.1 0 (by decide)) rfl (by omega) (by decide) b1 dX16_act_200 rfl ?_
                            refine ks_iconst (x := nI 0) dX16_act_201 (by decide) rfl ?_
                            refine ks_aload_n dX16_act_202 rfl rfl ?_
                            refine ks_getf (T := TX16) (kf := 66) kx_2434 rfl in_X16 cl_X16 (by decide) hO rfl dX16_act_203 rfl ?_
                            refine ks_aload_n dX16_act_206 rfl rfl ?_
                            refine ks_getf (T := TX16) (kf := 67) kx_2435 rfl in_X16 cl_X16 (by decide) hO rfl dX16_act_207 rfl ?_
                            refine ks_tv v67 ?_
                            refine ks_iconst (x := nI 1) dX16_act_210 (by decide) rfl ?_
                            refine ks_subN (by omega) dX16_act_211 rfl ?_
                            refine ks_ialdN (i := xs.length - 1) h362 rfl (by omega) (by decide) dX16_act_212 rfl ?_
                            rw [← en1]
                            refine ks_callS (n := 5) (M' := mX16_alike) (c_md_alike (d := d + 9) a2 a3 b2 b3 (i := 0) (k := 0) (n := n1) (by omega) (by omega) (by decide) (by decide)) kx_2134 kx_2135 kx_30 kx_2136 (by decide +kernel) rfl (by decide) (Nat.le_of_ble_eq_true rfl) rfl dX16_act_213 rfl (fun z5 S5 y5 => ?_)
                            obtain ⟨rfl, hT5⟩ := y5
                            obtain rfl := hT5.symm
                            refine ks_if_eqZ (tgt := 223) dX16_act_216 (by decide) rfl (fun hc216 => ?_) (fun hc216 => ?_)
                            · refine ks_iconst (x := nI 0) dX16_act_223 (by decide) rfl ?_
                              have hs : ¬ xs.getD 0 [] = xs.getD 1 [] := fun h => absurd (decide_eq_true (esm.mp h).2) (by rw [hc216]; decide)
                              obtain ⟨Q8, m8⟩ := rsQ.pop (k := 2) hO hK
                              have M8 := hM.ms hT9 m8 Q8
                              have l8 : (xs.drop 2).length ≤ 1000 := by rw [List.length_drop]; omega
                              refine ks_istore dX16_act_224 (by decide) rfl ?_
                              refine ks_sub [(4, _), (0, _), (1, _), (2, _), (3, _)] rfl ?_
                              refine ks_aload_n dX16_act_226 rfl rfl ?_
                              refine ks_dup dX16_act_227 rfl rfl ?_
                              refine ks_getf (T := TX16) (kf := 67) kx_2435 rfl in_X16 cl_X16 (by decide) hO rfl dX16_act_228 rfl ?_
                              refine ks_tv v67 ?_
                              refine ks_iconst (x := nI 2) dX16_act_231 (by decide) rfl ?_
                              refine ks_subN (by omega) dX16_act_232 rfl ?_
                              refine ks_putf (T := TX16) (kf := 67) kx_2435 rfl in_X16 tyX16_ok nmX16 cl_X16 (by decide) hO (Nat.le_of_ble_eq_true rfl) rfl rfl rfl rfl dX16_act_233 rfl ?_
                              refine md_put mdp_67 ?_
                              refine ks_aload_n dX16_act_236 rfl rfl ?_
                              refine ks_iload dX16_act_237 rfl rfl ?_
                              refine ks_iload_n dX16_act_239 rfl rfl ?_
                              refine ks_sipush (x := nI 136) dX16_act_240 (by decide) rfl ?_
                              refine ks_icmp_neN (tgt := 250) (by omega) (by decide) dX16_act_243 (by decide) rfl (fun h9 => ?_) (fun h9 => ?_)
                              · refine ks_iconst (x := nI 0) dX16_act_250 (by decide) rfl ?_
                                refine ks_callV (n := 2) (M' := mX16_answer) (c_rs_answer (d := d + 5) M8.1 M8.2.1 (b := false) (v := false) l8 ((va_up_ne _ _ (by decide)).trans v74)) (ks_set_same _ _ _) cl_X16 rfl kx_2204 kx_2206 kxp_96 kx_30 kx_2207 (by decide +kernel) rfl (by decide) (Nat.le_of_ble_eq_true rfl) rfl dX16_act_251 rfl (fun z9 S9 y9 => ?_)
                                obtain ⟨rfl, hr⟩ := y9
                                refine ks_goto (tgt := 268) dX16_act_254 (by decide) ?_
                                refine ks_ret rfl dX16_act_268 ?_
                                have hk9 : op = 135 := by omega
                                subst hk9
                                have hc9 : cmS xs ys = some (flagL false :: xs.drop 2, ys) := by
                                  unfold cmS
                                  rw [if_neg (by omega), decide_eq_false hs]
                                rw [if_neg (by decide), show opB 135 nx pb = pb from rfl, show opO 135 xs ops = ops from rfl]
                                rw [show opE (gdF Gp G9 L b k p m u e inp) (lkB G9 L p e inp) 135 xs ys ops (bytL gc pb (pe - pb)) = cmS xs ys from rfl, hc9]
                                exact ⟨rfl, ((hr.mq M8 hT9).A ((va_up_ne _ _ (by decide)).trans v80) ((va_up_ne _ _ (by decide)).trans v82)).after (mqK.ms m8).j⟩
                              · refine ks_iconst (x := nI 1) dX16_act_246 (by decide) rfl ?_
                                refine ks_goto (tgt := 251) dX16_act_247 (by decide) ?_
                                refine ks_callV (n := 2) (M' := mX16_answer) (c_rs_answer (d := d + 5) M8.1 M8.2.1 (b := false) (v := true) l8 ((va_up_ne _ _ (by decide)).trans v74)) (ks_set_same _ _ _) cl_X16 rfl kx_2204 kx_2206 kxp_96 kx_30 kx_2207 (by decide +kernel) rfl (by decide) (Nat.le_of_ble_eq_true rfl) rfl dX16_act_251 rfl (fun z9 S9 y9 => ?_)
                                obtain ⟨rfl, hr⟩ := y9
                                refine ks_goto (tgt := 268) dX16_act_254 (by decide) ?_
                                refine ks_ret rfl dX16_act_268 ?_
                                have hk9 : op = 136 := by omega
                                subst hk9
                                have hc9 : cmS xs ys = some (flagL false :: xs.drop 2, ys) := by
                                  unfold cmS
                                  rw [if_neg (by omega), decide_eq_false hs]
                                rw [if_neg (by decide), show opB 136 nx pb = pb from rfl, show opO 136 xs ops = ops from rfl]
                                rw [show opE (gdF Gp G9 L b k p m u e inp) (lkB G9 L p e inp) 136 xs ys ops (bytL gc pb (pe - pb)) = (match cmS xs ys with | some q => vfS q.1 q.2 | none => none) from rfl, hc9]
                                rw [show (match some (flagL false :: xs.drop 2, ys) with | some q => vfS q.1 q.2 | none => none) = vfS (flagL false :: xs.drop 2) ys from rfl, vf_flag]
                                exact ⟨rfl, ((hr.mq M8 hT9).A ((va_up_ne _ _ (by decide)).trans v80) ((va_up_ne _ _ (by decide)).trans v82)).after (mqK.ms m8).j⟩
                            · refine ks_iconst (x := nI 1) dX16_act_219 (by decide) rfl ?_
                              refine ks_goto (tgt := 224) dX16_act_220 (by decide) ?_
                              have hs : xs.getD 0 [] = xs.getD 1 [] := esm.mpr ⟨by omega, of_decide_eq_true hc216⟩
                              obtain ⟨Q8, m8⟩ := rsQ.pop (k := 2) hO hK
                              have M8 := hM.ms hT9 m8 Q8
                              have l8 : (xs.drop 2).length ≤ 1000 := by rw [List.length_drop]; omega
                              refine ks_istore dX16_act_224 (by decide) rfl ?_
                              refine ks_sub [(4, _), (0, _), (1, _), (2, _), (3, _)] rfl ?_
                              refine ks_aload_n dX16_act_226 rfl rfl ?_
                              refine ks_dup dX16_act_227 rfl rfl ?_
                              refine ks_getf (T := TX16) (kf := 67) kx_2435 rfl in_X16 cl_X16 (by decide) hO rfl dX16_act_228 rfl ?_
                              refine ks_tv v67 ?_
                              refine ks_iconst (x := nI 2) dX16_act_231 (by decide) rfl ?_
                              refine ks_subN (by omega) dX16_act_232 rfl ?_
                              refine ks_putf (T := TX16) (kf := 67) kx_2435 rfl in_X16 tyX16_ok nmX16 cl_X16 (by decide) hO (Nat.le_of_ble_eq_true rfl) rfl rfl rfl rfl dX16_act_233 rfl ?_
                              refine md_put mdp_67 ?_
                              refine ks_aload_n dX16_act_236 rfl rfl ?_
                              refine ks_iload dX16_act_237 rfl rfl ?_
                              refine ks_iload_n dX16_act_239 rfl rfl ?_
                              refine ks_sipush (x := nI 136) dX16_act_240 (by decide) rfl ?_
                              refine ks_icmp_neN (tgt := 250) (by omega) (by decide) dX16_act_243 (by decide) rfl (fun h9 => ?_) (fun h9 => ?_)
                              · refine ks_iconst (x := nI 0) dX16_act_250 (by decide) rfl ?_
                                refine ks_callV (n := 2) (M' := mX16_answer) (c_rs_answer (d := d + 5) M8.1 M8.2.1 (b := true) (v := false) l8 ((va_up_ne _ _ (by decide)).trans v74)) (ks_set_same _ _ _) cl_X16 rfl kx_2204 kx_2206 kxp_96 kx_30 kx_2207 (by decide +kernel) rfl (by decide) (Nat.le_of_ble_eq_true rfl) rfl dX16_act_251 rfl (fun z9 S9 y9 => ?_)
                                obtain ⟨rfl, hr⟩ := y9
                                refine ks_goto (tgt := 268) dX16_act_254 (by decide) ?_
                                refine ks_ret rfl dX16_act_268 ?_
                                have hk9 : op = 135 := by omega
                                subst hk9
                                have hc9 : cmS xs ys = some (flagL true :: xs.drop 2, ys) := by
                                  unfold cmS
                                  rw [if_neg (by omega), decide_eq_true hs]
                                rw [if_neg (by decide), show opB 135 nx pb = pb from rfl, show opO 135 xs ops = ops from rfl]
                                rw [show opE (gdF Gp G9 L b k p m u e inp) (lkB G9 L p e inp) 135 xs ys ops (bytL gc pb (pe - pb)) = cmS xs ys from rfl, hc9]
                                exact ⟨rfl, ((hr.mq M8 hT9).A ((va_up_ne _ _ (by decide)).trans v80) ((va_up_ne _ _ (by decide)).trans v82)).after (mqK.ms m8).j⟩
                              · refine ks_iconst (x := nI 1) dX16_act_246 (by decide) rfl ?_
                                refine ks_goto (tgt := 251) dX16_act_247 (by decide) ?_
                                refine ks_callV (n := 2) (M' := mX16_answer) (c_rs_answer (d := d + 5) M8.1 M8.2.1 (b := true) (v := true) l8 ((va_up_ne _ _ (by decide)).trans v74)) (ks_set_same _ _ _) cl_X16 rfl kx_2204 kx_2206 kxp_96 kx_30 kx_2207 (by decide +kernel) rfl (by decide) (Nat.le_of_ble_eq_true rfl) rfl dX16_act_251 rfl (fun z9 S9 y9 => ?_)
                                obtain ⟨rfl, hr⟩ := y9
                                refine ks_goto (tgt := 268) dX16_act_254 (by decide) ?_
                                refine ks_ret rfl dX16_act_268 ?_
                                have hk9 : op = 136 := by omega
                                subst hk9
                                have hc9 : cmS xs ys = some (flagL true :: xs.drop 2, ys) := by
                                  unfold cmS
                                  rw [if_neg (by omega), decide_eq_true hs]
                                rw [if_neg (by decide), show opB 136 nx pb = pb from rfl, show opO 136 xs ops = ops from rfl]
                                rw [show opE (gdF Gp G9 L b k p m u e inp) (lkB G9 L p e inp) 136 xs ys ops (bytL gc pb (pe - pb)) = (match cmS xs ys with | some q => vfS q.1 q.2 | none => none) from rfl, hc9]
                                rw [show (match some (flagL true :: xs.drop 2, ys) with | some q => vfS q.1 q.2 | none => none) = vfS (flagL true :: xs.drop 2) ys from rfl, vf_flag]
                                exact ⟨rfl, ((hr.mq M8 hT9).A ((va_up_ne _ _ (by decide)).trans v80) ((va_up_ne _ _ (by decide)).trans v82)).after (mqK.ms m8).j⟩
                        · exact absurd hc149 (by decide)
                      · obtain rfl := (y3b c0).symm
                        rw [decide_eq_false c0]
                        refine ks_if_neZ (tgt := 153) dX16_act_149 (by decide) rfl (fun hc149 => ?_) (fun hc149 => ?_)
                        · exact absurd hc149 (by decide)
                        · refine ks_ret rfl dX16_act_152 ?_
                          obtain ⟨e1, e2⟩ := oe_pf (GD := (gdF Gp G9 L b k p m u e inp)) (LK := (lkB G9 L p e inp)) (op := op) (ops := ops) (xs := xs) (ys := ys) (c := bytL gc pb (pe - pb)) (by omega)
                          rw [if_neg (show ¬ op ≤ 78 by omega), e1, e2, show opB op nx pb = pb from if_neg (by omega)]
                          exact ⟨rfl, mqA.bad ((mqJ.rf S V F).put (by decide)) (hM.put hT9 (by decide)) (va_up_self _ _ _) (by
                            have hcm : cmS xs ys = none := if_pos (by omega)
                            rcases (show op = 135 ∨ op = 136 by omega) with rfl | rfl
                            · exact hcm
                            · show (match cmS xs ys with | some q => vfS q.1 q.2 | none => none) = none
                              rw [hcm])⟩
                    · refine ks_iload_n dX16_act_137 rfl rfl ?_
                      refine ks_sipush (x := nI 136) dX16_act_138 (by decide) rfl ?_
                      refine ks_icmp_neN (tgt := 257) (by omega) (by decide) dX16_act_141 (by decide) rfl (fun hc141 => ?_) (fun hc141 => ?_)
                      · refine ks_iload_n dX16_act_257 rfl rfl ?_
                        refine ks_bipush (x := nI 97) dX16_act_258 (by decide) rfl ?_
                        refine ks_icmp_eqN (tgt := 268) (by omega) (by decide) dX16_act_260 (by decide) rfl (fun hc260 => ?_) (fun hc260 => ?_)
                        · refine ks_ret rfl dX16_act_268 ?_
                          obtain ⟨e1, e2⟩ := oe_pf (GD := (gdF Gp G9 L b k p m u e inp)) (LK := (lkB G9 L p e inp)) (op := op) (ops := ops) (xs := xs) (ys := ys) (c := bytL gc pb (pe - pb)) (by omega)
                          rw [if_neg (show ¬ op ≤ 78 by omega), e1, e2, show opB op nx pb = pb from if_neg (by omega)]
                          have h97 : op = 97 := by omega
                          subst h97
                          exact ⟨rfl, ⟨V, F, xs, ys, mqJ.rf S V F, hM, .inl ⟨v74, rfl, v80, v82⟩⟩⟩
                        · refine ks_aload_n dX16_act_263 rfl rfl ?_
                          refine ks_iconst (x := nI 1) dX16_act_264 (by decide) rfl ?_
                          refine ks_putf (T := TX16) (kf := 74) kx_2442 rfl in_X16 tyX16_ok nmX16 cl_X16 (by decide) hO (Nat.le_of_ble_eq_true rfl) rfl rfl rfl rfl dX16_act_265 rfl ?_
                          refine md_put mdp_74 ?_
                          refine ks_ret rfl dX16_act_268 ?_
                          obtain ⟨e1, e2⟩ := oe_pf (GD := (gdF Gp G9 L b k p m u e inp)) (LK := (lkB G9 L p e inp)) (op := op) (ops := ops) (xs := xs) (ys := ys) (c := bytL gc pb (pe - pb)) (by omega)
                          rw [if_neg (show ¬ op ≤ 78 by omega), e1, e2, show opB op nx pb = pb from if_neg (by omega)]
                          exact ⟨rfl, mqA.bad ((mqJ.rf S V F).put (by decide)) (hM.put hT9 (by decide)) (va_up_self _ _ _) (pf_no (by omega))⟩
                      · refine ks_aload_n dX16_act_144 rfl rfl ?_
                        refine ks_iconst (x := nI 2) dX16_act_145 (by decide) rfl ?_
                        refine ks_callV (n := 1) (M' := mX16_need) (c_rs_need (d := d + 9) hO hK (n := 2) (by decide)) hO cl_X16 rfl kx_2165 kx_2167 kxp_87 kx_30 kx_2168 (by decide +kernel) rfl (by decide) (Nat.le_of_ble_eq_true rfl) rfl dX16_act_146 rfl (fun z3 S3 y3 => ?_)
                        obtain ⟨rfl, y3a, y3b⟩ := y3
                        by_cases c0 : 2 ≤ xs.length
                        · obtain rfl := (y3a c0).symm
                          rw [decide_eq_true c0]
                          obtain ⟨T, sz, oz, vz, hK', eF, gS, kS, h367⟩ := id hK
                          obtain ⟨hT, ⟨h362, h364, h366⟩, -, -, hx, -⟩ := id hK'
                          obtain ⟨r1, g1, a1, a2, a3, a4, a5⟩ := hx (xs.length - 1) (by omega)
                          rw [Nat.sub_self] at a5
                          obtain ⟨r2, g2, b1, b2, b3, b4, b5⟩ := hx (xs.length - 2) (by omega)
                          rw [show xs.length - 1 - (xs.length - 2) = 1 by omega] at b5
                          obtain ⟨n1, en1⟩ : ∃ n, n = sz (xs.length - 1) := ⟨_, rfl⟩
                          obtain ⟨n2, en2⟩ : ∃ n, n = sz (xs.length - 2) := ⟨_, rfl⟩
                          rw [← en1] at a4 a5
                          rw [← en2] at b4 b5
                          have esm : (xs.getD 0 [] = xs.getD 1 []) ↔ n1 = n2 ∧ ∀ q, q < n1 → g1 (0 + q) = g2 (0 + q) := by rw [a5, b5]; exact bytL_ext
                          refine ks_if_neZ (tgt := 153) dX16_act_149 (by decide) rfl (fun hc149 => ?_) (fun hc149 => ?_)
                          · refine ks_aload_n dX16_act_153 rfl rfl ?_
                            refine ks_getf (T := TX16) (kf := 66) kx_2434 rfl in_X16 cl_X16 (by decide) hO rfl dX16_act_154 rfl ?_
                            refine ks_aload_n dX16_act_157 rfl rfl ?_
                            refine ks_getf (T := TX16) (kf := 67) kx_2435 rfl in_X16 cl_X16 (by decide) hO rfl dX16_act_158 rfl ?_
                            refine ks_tv v67 ?_
                            refine ks_iconst (x := nI 1) dX16_act_161 (by decide) rfl ?_
                            refine ks_subN (by omega) dX16_act_162 rfl ?_
                            refine ks_ialdN (i := xs.length - 1) h362 rfl (by omega) (by decide) dX16_act_163 rfl ?_
                            rw [← en1]
                            refine ks_aload_n dX16_act_164 rfl rfl ?_
                            refine ks_getf (T := TX16) (kf := 66) kx_2434 rfl in_X16 cl_X16 (by decide) hO rfl dX16_act_165 rfl ?_
                            refine ks_aload_n dX16_act_168 rfl rfl ?_
                            refine ks_getf (T := TX16) (kf := 67) kx_2435 rfl in_X16 cl_X16 (by decide) hO rfl dX16_act_169 rfl ?_
                            refine ks_tv v67 ?_
                            refine ks_iconst (x := nI 2) dX16_act_172 (by decide) rfl ?_
                            refine ks_subN (by omega) dX16_act_173 rfl ?_
                            refine ks_ialdN (i := xs.length - 2) h362 rfl (by omega) (by decide) dX16_act_174 rfl ?_
                            rw [← en2]
                            refine ks_icmp_neN (tgt := 223) (by omega) (by omega) dX16_act_175 (by decide) rfl (fun hc175 => ?_) (fun hc175 => ?_)
                            · refine ks_iconst (x := nI 0) dX16_act_223 (by decide) rfl ?_
                              have hs : ¬ xs.getD 0 [] = xs.getD 1 [] := fun h => hc175 (esm.mp h).1
                              obtain ⟨Q8, m8⟩ := rsQ.pop (k := 2) hO hK
                              have M8 := hM.ms hT9 m8 Q8
                              have l8 : (xs.drop 2).length ≤ 1000 := by rw [List.length_drop]; omega
                              refine ks_istore dX16_act_224 (by decide) rfl ?_
                              refine ks_sub [(4, _), (0, _), (1, _), (2, _), (3, _)] rfl ?_
                              refine ks_aload_n dX16_act_226 rfl rfl ?_
                              refine ks_dup dX16_act_227 rfl rfl ?_
                              refine ks_getf (T := TX16) (kf := 67) kx_2435 rfl in_X16 cl_X16 (by decide) hO rfl dX16_act_228 rfl ?_
                              refine ks_tv v67 ?_
                              refine ks_iconst (x := nI 2) dX16_act_231 (by decide) rfl ?_
                              refine ks_subN (by omega) dX16_act_232 rfl ?_
                              refine ks_putf (T := TX16) (kf := 67) kx_2435 rfl in_X16 tyX16_ok nmX16 cl_X16 (by decide) hO (Nat.le_of_ble_eq_true rfl) rfl rfl rfl rfl dX16_act_233 rfl ?_
                              refine md_put mdp_67 ?_
                              refine ks_aload_n dX16_act_236 rfl rfl ?_
                              refine ks_iload dX16_act_237 rfl rfl ?_
                              refine ks_iload_n dX16_act_239 rfl rfl ?_
                              refine ks_sipush (x := nI 136) dX16_act_240 (by decide) rfl ?_
                              refine ks_icmp_neN (tgt := 250) (by omega) (by decide) dX16_act_243 (by decide) rfl (fun h9 => ?_) (fun h9 => ?_)
                              · omega
                              · refine ks_iconst (x := nI 1) dX16_act_246 (by decide) rfl ?_
                                refine ks_goto (tgt := 251) dX16_act_247 (by decide) ?_
                                refine ks_callV (n := 2) (M' := mX16_answer) (c_rs_answer (d := d + 5) M8.1 M8.2.1 (b := false) (v := true) l8 ((va_up_ne _ _ (by decide)).trans v74)) (ks_set_same _ _ _) cl_X16 rfl kx_2204 kx_2206 kxp_96 kx_30 kx_2207 (by decide +kernel) rfl (by decide) (Nat.le_of_ble_eq_true rfl) rfl dX16_act_251 rfl (fun z9 S9 y9 => ?_)
                                obtain ⟨rfl, hr⟩ := y9
                                refine ks_goto (tgt := 268) dX16_act_254 (by decide) ?_
                                refine ks_ret rfl dX16_act_268 ?_
                                have hk9 : op = 136 := by omega
                                subst hk9
                                have hc9 : cmS xs ys = some (flagL false :: xs.drop 2, ys) := by
                                  unfold cmS
                                  rw [if_neg (by omega), decide_eq_false hs]
                                rw [if_neg (by decide), show opB 136 nx pb = pb from rfl, show opO 136 xs ops = ops from rfl]
                                rw [show opE (gdF Gp G9 L b k p m u e inp) (lkB G9 L p e inp) 136 xs ys ops (bytL gc pb (pe - pb)) = (match cmS xs ys with | some q => vfS q.1 q.2 | none => none) from rfl, hc9]
                                rw [show (match some (flagL false :: xs.drop 2, ys) with | some q => vfS q.1 q.2 | none => none) = vfS (flagL false :: xs.drop 2) ys from rfl, vf_flag]
                                exact ⟨rfl, ((hr.mq M8 hT9).A ((va_up_ne _ _ (by decide)).trans v80) ((va_up_ne _ _ (by decide)).trans v82)).after (mqK.ms m8).j⟩
                            · refine ks_aload_n dX16_act_178 rfl rfl ?_
                              refine ks_getf (T := TX16) (kf := 65) kx_2433 rfl in_X16 cl_X16 (by decide) hO rfl dX16_act_179 rfl ?_
                              refine ks_aload_n dX16_act_182 rfl rfl ?_
                              refine ks_getf (T := TX16) (kf := 67) kx_2435 rfl in_X16 cl_X16 (by decide) hO rfl dX16_act_183 rfl ?_
                              refine ks_tv v67 ?_
                              refine ks_iconst (x := nI 1) dX16_act_186 (by decide) rfl ?_
                              refine ks_subN (by omega) dX16_act_187 rfl ?_
                              refine ks_aaldN (i := xs.length - 1) (b := r1) (by decide) (hT.1 0 (by decide)) rfl (by omega) (by decide) a1 dX16_act_188 rfl ?_
                              refine ks_iconst (x := nI 0) dX16_act_189 (by decide) rfl ?_
                              refine ks_aload_n dX16_act_190 rfl rfl ?_
                              refine ks_getf (T := TX16) (kf := 65) kx_2433 rfl in_X16 cl_X16 (by decide) hO rfl dX16_act_191 rfl ?_
                              refine ks_aload_n dX16_act_194 rfl rfl ?_
                              refine ks_getf (T := TX16) (kf := 67) kx_2435 rfl in_X16 cl_X16 (by decide) hO rfl dX16_act_195 rfl ?_
                              refine ks_tv v67 ?_
                              refine ks_iconst (x := nI 2) dX16_act_198 (by decide) rfl ?_
                              refine ks_subN (by omega) dX16_act_199 rfl ?_
                              refine ks_aaldN (i := xs.length - 2) (b := r2) (by decide) (hT.1 0 (by decide)) rfl (by omega) (by decide) b1 dX16_act_200 rfl ?_
                              refine ks_iconst (x := nI 0) dX16_act_201 (by decide) rfl ?_
                              refine ks_aload_n dX16_act_202 rfl rfl ?_
                              refine ks_getf (T := TX16) (kf := 66) kx_2434 rfl in_X16 cl_X16 (by decide) hO rfl dX16_act_203 rfl ?_
                              refine ks_aload_n dX16_act_206 rfl rfl ?_
                              refine ks_getf (T := TX16) (kf := 67) kx_2435 rfl in_X16 cl_X16 (by decide) hO rfl dX16_act_207 rfl ?_
                              refine ks_tv v67 ?_
                              refine ks_iconst (x := nI 1) dX16_act_210 (by decide) rfl ?_
                              refine ks_subN (by omega) dX16_act_211 rfl ?_
                              refine ks_ialdN (i := xs.length - 1) h362 rfl (by omega) (by decide) dX16_act_212 rfl ?_
                              rw [← en1]
                              refine ks_callS (n := 5) (M' := mX16_alike) (c_md_alike (d := d + 9) a2 a3 b2 b3 (i := 0) (k := 0) (n := n1) (by omega) (by omega) (by decide) (by decide)) kx_2134 kx_2135 kx_30 kx_2136 (by decide +kernel) rfl (by decide) (Nat.le_of_ble_eq_true rfl) rfl dX16_act_213 rfl (fun z5 S5 y5 => ?_)
                              obtain ⟨rfl, hT5⟩ := y5
                              obtain rfl := hT5.symm
                              refine ks_if_eqZ (tgt := 223) dX16_act_216 (by decide) rfl (fun hc216 => ?_) (fun hc216 => ?_)
                              · refine ks_iconst (x := nI 0) dX16_act_223 (by decide) rfl ?_
                                have hs : ¬ xs.getD 0 [] = xs.getD 1 [] := fun h => absurd (decide_eq_true (esm.mp h).2) (by rw [hc216]; decide)
                                obtain ⟨Q8, m8⟩ := rsQ.pop (k := 2) hO hK
                                have M8 := hM.ms hT9 m8 Q8
                                have l8 : (xs.drop 2).length ≤ 1000 := by rw [List.length_drop]; omega
                                refine ks_istore dX16_act_224 (by decide) rfl ?_
                                refine ks_sub [(4, _), (0, _), (1, _), (2, _), (3, _)] rfl ?_
                                refine ks_aload_n dX16_act_226 rfl rfl ?_
                                refine ks_dup dX16_act_227 rfl rfl ?_
                                refine ks_getf (T := TX16) (kf := 67) kx_2435 rfl in_X16 cl_X16 (by decide) hO rfl dX16_act_228 rfl ?_
                                refine ks_tv v67 ?_
                                refine ks_iconst (x := nI 2) dX16_act_231 (by decide) rfl ?_
                                refine ks_subN (by omega) dX16_act_232 rfl ?_
                                refine ks_putf (T := TX16) (kf := 67) kx_2435 rfl in_X16 tyX16_ok nmX16 cl_X16 (by decide) hO (Nat.le_of_ble_eq_true rfl) rfl rfl rfl rfl dX16_act_233 rfl ?_
                                refine md_put mdp_67 ?_
                                refine ks_aload_n dX16_act_236 rfl rfl ?_
                                refine ks_iload dX16_act_237 rfl rfl ?_
                                refine ks_iload_n dX16_act_239 rfl rfl ?_
                                refine ks_sipush (x := nI 136) dX16_act_240 (by decide) rfl ?_
                                refine ks_icmp_neN (tgt := 250) (by omega) (by decide) dX16_act_243 (by decide) rfl (fun h9 => ?_) (fun h9 => ?_)
                                · omega
                                · refine ks_iconst (x := nI 1) dX16_act_246 (by decide) rfl ?_
                                  refine ks_goto (tgt := 251) dX16_act_247 (by decide) ?_
                                  refine ks_callV (n := 2) (M' := mX16_answer) (c_rs_answer (d := d + 5) M8.1 M8.2.1 (b := false) (v := true) l8 ((va_up_ne _ _ (by decide)).trans v74)) (ks_set_same _ _ _) cl_X16 rfl kx_2204 kx_2206 kxp_96 kx_30 kx_2207 (by decide +kernel) rfl (by decide) (Nat.le_of_ble_eq_true rfl) rfl dX16_act_251 rfl (fun z9 S9 y9 => ?_)
                                  obtain ⟨rfl, hr⟩ := y9
                                  refine ks_goto (tgt := 268) dX16_act_254 (by decide) ?_
                                  refine ks_ret rfl dX16_act_268 ?_
                                  have hk9 : op = 136 := by omega
                                  subst hk9
                                  have hc9 : cmS xs ys = some (flagL false :: xs.drop 2, ys) := by
                                    unfold cmS
                                    rw [if_neg (by omega), decide_eq_false hs]
                                  rw [if_neg (by decide), show opB 136 nx pb = pb from rfl, show opO 136 xs ops = ops from rfl]
                                  rw [show opE (gdF Gp G9 L b k p m u e inp) (lkB G9 L p e inp) 136 xs ys ops (bytL gc pb (pe - pb)) = (match cmS xs ys with | some q => vfS q.1 q.2 | none => none) from rfl, hc9]
                                  rw [show (match some (flagL false :: xs.drop 2, ys) with | some q => vfS q.1 q.2 | none => none) = vfS (flagL false :: xs.drop 2) ys from rfl, vf_flag]
                                  exact ⟨rfl, ((hr.mq M8 hT9).A ((va_up_ne _ _ (by decide)).trans v80) ((va_up_ne _ _ (by decide)).trans v82)).after (mqK.ms m8).j⟩
                              · refine ks_iconst (x := nI 1) dX16_act_219 (by decide) rfl ?_
                                refine ks_goto (tgt := 224) dX16_act_220 (by decide) ?_
                                have hs : xs.getD 0 [] = xs.getD 1 [] := esm.mpr ⟨by omega, of_decide_eq_true hc216⟩
                                obtain ⟨Q8, m8⟩ := rsQ.pop (k := 2) hO hK
                                have M8 := hM.ms hT9 m8 Q8
                                have l8 : (xs.drop 2).length ≤ 1000 := by rw [List.length_drop]; omega
                                refine ks_istore dX16_act_224 (by decide) rfl ?_
                                refine ks_sub [(4, _), (0, _), (1, _), (2, _), (3, _)] rfl ?_
                                refine ks_aload_n dX16_act_226 rfl rfl ?_
                                refine ks_dup dX16_act_227 rfl rfl ?_
                                refine ks_getf (T := TX16) (kf := 67) kx_2435 rfl in_X16 cl_X16 (by decide) hO rfl dX16_act_228 rfl ?_
                                refine ks_tv v67 ?_
                                refine ks_iconst (x := nI 2) dX16_act_231 (by decide) rfl ?_
                                refine ks_subN (by omega) dX16_act_232 rfl ?_
                                refine ks_putf (T := TX16) (kf := 67) kx_2435 rfl in_X16 tyX16_ok nmX16 cl_X16 (by decide) hO (Nat.le_of_ble_eq_true rfl) rfl rfl rfl rfl dX16_act_233 rfl ?_
                                refine md_put mdp_67 ?_
                                refine ks_aload_n dX16_act_236 rfl rfl ?_
                                refine ks_iload dX16_act_237 rfl rfl ?_
                                refine ks_iload_n dX16_act_239 rfl rfl ?_
                                refine ks_sipush (x := nI 136) dX16_act_240 (by decide) rfl ?_
                                refine ks_icmp_neN (tgt := 250) (by omega) (by decide) dX16_act_243 (by decide) rfl (fun h9 => ?_) (fun h9 => ?_)
                                · omega
                                · refine ks_iconst (x := nI 1) dX16_act_246 (by decide) rfl ?_
                                  refine ks_goto (tgt := 251) dX16_act_247 (by decide) ?_
                                  refine ks_callV (n := 2) (M' := mX16_answer) (c_rs_answer (d := d + 5) M8.1 M8.2.1 (b := true) (v := true) l8 ((va_up_ne _ _ (by decide)).trans v74)) (ks_set_same _ _ _) cl_X16 rfl kx_2204 kx_2206 kxp_96 kx_30 kx_2207 (by decide +kernel) rfl (by decide) (Nat.le_of_ble_eq_true rfl) rfl dX16_act_251 rfl (fun z9 S9 y9 => ?_)
                                  obtain ⟨rfl, hr⟩ := y9
                                  refine ks_goto (tgt := 268) dX16_act_254 (by decide) ?_
                                  refine ks_ret rfl dX16_act_268 ?_
                                  have hk9 : op = 136 := by omega
                                  subst hk9
                                  have hc9 : cmS xs ys = some (flagL true :: xs.drop 2, ys) := by
                                    unfold cmS
                                    rw [if_neg (by omega), decide_eq_true hs]
                                  rw [if_neg (by decide), show opB 136 nx pb = pb from rfl, show opO 136 xs ops = ops from rfl]
                                  rw [show opE (gdF Gp G9 L b k p m u e inp) (lkB G9 L p e inp) 136 xs ys ops (bytL gc pb (pe - pb)) = (match cmS xs ys with | some q => vfS q.1 q.2 | none => none) from rfl, hc9]
                                  rw [show (match some (flagL true :: xs.drop 2, ys) with | some q => vfS q.1 q.2 | none => none) = vfS (flagL true :: xs.drop 2) ys from rfl, vf_flag]
                                  exact ⟨rfl, ((hr.mq M8 hT9).A ((va_up_ne _ _ (by decide)).trans v80) ((va_up_ne _ _ (by decide)).trans v82)).after (mqK.ms m8).j⟩
                          · exact absurd hc149 (by decide)
                        · obtain rfl := (y3b c0).symm
                          rw [decide_eq_false c0]
                          refine ks_if_neZ (tgt := 153) dX16_act_149 (by decide) rfl (fun hc149 => ?_) (fun hc149 => ?_)
                          · exact absurd hc149 (by decide)
                          · refine ks_ret rfl dX16_act_152 ?_
                            obtain ⟨e1, e2⟩ := oe_pf (GD := (gdF Gp G9 L b k p m u e inp)) (LK := (lkB G9 L p e inp)) (op := op) (ops := ops) (xs := xs) (ys := ys) (c := bytL gc pb (pe - pb)) (by omega)
                            rw [if_neg (show ¬ op ≤ 78 by omega), e1, e2, show opB op nx pb = pb from if_neg (by omega)]
                            exact ⟨rfl, mqA.bad ((mqJ.rf S V F).put (by decide)) (hM.put hT9 (by decide)) (va_up_self _ _ _) (by
                              have hcm : cmS xs ys = none := if_pos (by omega)
                              rcases (show op = 135 ∨ op = 136 by omega) with rfl | rfl
                              · exact hcm
                              · show (match cmS xs ys with | some q => vfS q.1 q.2 | none => none) = none
                                rw [hcm])⟩
                  · refine ks_aload_n dX16_act_103 rfl rfl ?_
                    refine ks_iconst (x := nI 1) dX16_act_104 (by decide) rfl ?_
                    refine ks_callV (n := 1) (M' := mX16_need) (c_rs_need (d := d + 9) hO hK (n := 1) (by decide)) hO cl_X16 rfl kx_2165 kx_2167 kxp_87 kx_30 kx_2168 (by decide +kernel) rfl (by decide) (Nat.le_of_ble_eq_true rfl) rfl dX16_act_105 rfl (fun z3 S3 y3 => ?_)
                    obtain ⟨rfl, y3a, y3b⟩ := y3
                    by_cases c0 : 1 ≤ xs.length
                    · obtain rfl := (y3a c0).symm
                      rw [decide_eq_true c0]
                      obtain ⟨T, sz, oz, vz, hK', eF, gS, kS, h367⟩ := id hK
                      obtain ⟨hT, ⟨h362, h364, h366⟩, -, -, hx, -⟩ := id hK'
                      obtain ⟨r1, g1, a1, a2, a3, a4, a5⟩ := hx (xs.length - 1) (by omega)
                      rw [Nat.sub_self] at a5
                      have l0 : (xs.getD 0 []).length = sz (xs.length - 1) := by rw [a5, bytL_len]
                      refine ks_if_eqZ (tgt := 268) dX16_act_108 (by decide) rfl (fun hc108 => ?_) (fun hc108 => ?_)
                      · exact absurd hc108 (by decide)
                      · refine ks_aload_n dX16_act_111 rfl rfl ?_
                        refine ks_aload_n dX16_act_112 rfl rfl ?_
                        refine ks_getf (T := TX16) (kf := 66) kx_2434 rfl in_X16 cl_X16 (by decide) hO rfl dX16_act_113 rfl ?_
                        refine ks_aload_n dX16_act_116 rfl rfl ?_
                        refine ks_getf (T := TX16) (kf := 67) kx_2435 rfl in_X16 cl_X16 (by decide) hO rfl dX16_act_117 rfl ?_
                        refine ks_tv v67 ?_
                        refine ks_iconst (x := nI 1) dX16_act_120 (by decide) rfl ?_
                        refine ks_subN (by omega) dX16_act_121 rfl ?_
                        refine ks_ialdN (i := xs.length - 1) h362 rfl (by omega) (by decide) dX16_act_122 rfl ?_
                        refine ks_i2lN (by omega) dX16_act_123 rfl ?_
                        refine ks_tl (y := iL (((xs.getD 0 []).length : Nat) : Int)) (by rw [l0]; rfl) ?_
                        refine ks_callV (n := 1) (M' := mX16_pushNumber) (c_rs_pushNumber (d := d + 7) hO hK (v := (((xs.getD 0 []).length : Nat) : Int)) (by rw [l0]; omega)) hO cl_X16 rfl kx_2184 kx_2186 kxp_91 kx_30 kx_2187 (by decide +kernel) rfl (by decide) (Nat.le_of_ble_eq_true rfl) rfl dX16_act_124 rfl (fun z4 S4 y4 => ?_)
                        obtain ⟨rfl, hr⟩ := y4
                        refine ks_goto (tgt := 268) dX16_act_127 (by decide) ?_
                        refine ks_ret rfl dX16_act_268 ?_
                        have h130 : op = 130 := by omega
                        subst h130
                        rw [if_neg (by decide), show opE (gdF Gp G9 L b k p m u e inp) (lkB G9 L p e inp) 130 xs ys ops (bytL gc pb (pe - pb)) = (if xs.length = 0 then none else some (numI ((xs.getD 0 []).length : Nat) :: xs, ys)) from rfl, if_neg (by omega), show opB 130 nx pb = pb from rfl, show opO 130 xs ops = ops from rfl]
                        exact ⟨rfl, ((hr.op (by omega) v74).mq hM hT9).A v80 v82⟩
                    · obtain rfl := (y3b c0).symm
                      rw [decide_eq_false c0]
                      refine ks_if_eqZ (tgt := 268) dX16_act_108 (by decide) rfl (fun hc108 => ?_) (fun hc108 => ?_)
                      · refine ks_ret rfl dX16_act_268 ?_
                        obtain ⟨e1, e2⟩ := oe_pf (GD := (gdF Gp G9 L b k p m u e inp)) (LK := (lkB G9 L p e inp)) (op := op) (ops := ops) (xs := xs) (ys := ys) (c := bytL gc pb (pe - pb)) (by omega)
                        rw [if_neg (show ¬ op ≤ 78 by omega), e1, e2, show opB op nx pb = pb from if_neg (by omega)]
                        exact ⟨rfl, mqA.bad ((mqJ.rf S V F).put (by decide)) (hM.put hT9 (by decide)) (va_up_self _ _ _) (by
                          have h130 : op = 130 := by omega
                          subst h130
                          show (if xs.length = 0 then none else _) = none
                          rw [if_pos (by omega)])⟩
                      · exact absurd hc108 (by decide)
                · refine ks_aload_n dX16_act_88 rfl rfl ?_
                  refine ks_iload_n dX16_act_89 rfl rfl ?_
                  refine ks_callV (n := 1) (M' := mX16_move) (c_rs_move (d := d + 6) hO hK (op := op) (by omega) hl v74 h369) hO cl_X16 rfl kx_2340 kx_2342 kxp_121 kx_30 kx_2343 (by decide +kernel) rfl (by decide) (Nat.le_of_ble_eq_true rfl) rfl dX16_act_90 rfl (fun z1 S1 y1 => ?_)
                  obtain ⟨rfl, hr⟩ := y1
                  refine ks_goto (tgt := 268) dX16_act_93 (by decide) ?_
                  refine ks_ret rfl dX16_act_268 ?_
                  obtain ⟨e1, e2⟩ := oe_pf (GD := (gdF Gp G9 L b k p m u e inp)) (LK := (lkB G9 L p e inp)) (op := op) (ops := ops) (xs := xs) (ys := ys) (c := bytL gc pb (pe - pb)) (by omega)
                  rw [if_neg (show ¬ op ≤ 78 by omega), e1, e2, show opB op nx pb = pb from if_neg (by omega)]
                  rw [pf_mv (by omega)]
                  exact ⟨rfl, (hr.mq hM hT9).A v80 v82⟩
          · refine ks_aload_n dX16_act_61 rfl rfl ?_
            refine ks_iload_n dX16_act_62 rfl rfl ?_
            refine ks_iload_n dX16_act_63 rfl rfl ?_
            refine ks_callV (n := 2) (M' := mX16_work_) (c_rs_work (d := d) hM hT9 v79 v80 v81 hcd hck hb9 (nx := nx) hop hnb hl v74 v82 hops (by omega)) hO cl_X16 rfl kx_2188 kx_2190 kxp_92 kx_30 kx_2191 (by decide +kernel) rfl (by decide) (Nat.le_of_ble_eq_true rfl) rfl dX16_act_64 rfl (fun z1 S1 y1 => ?_)
            obtain ⟨rfl, hr⟩ := y1
            refine ks_goto (tgt := 268) dX16_act_67 (by decide) ?_
            refine ks_ret rfl dX16_act_268 ?_
            rw [if_neg (show ¬ op ≤ 78 by omega)]
            exact ⟨rfl, hr⟩
        · refine ks_aload_n dX16_act_42 rfl rfl ?_
          refine ks_iload_n dX16_act_43 rfl rfl ?_
          refine ks_bipush (x := nI 80) dX16_act_44 (by decide) rfl ?_
          refine ks_isub dX16_act_46 rfl ?_
          refine ks_i2l dX16_act_47 rfl ?_
          refine ks_tl (y := iL ((op : Int) - 80)) (sub80 hop) ?_
          refine ks_callV (n := 1) (M' := mX16_pushNumber) (c_rs_pushNumber (d := d + 7) hO hK (v := (op : Int) - 80) (numI_b80 (by omega))) hO cl_X16 rfl kx_2184 kx_2186 kxp_91 kx_30 kx_2187 (by decide +kernel) rfl (by decide) (Nat.le_of_ble_eq_true rfl) rfl dX16_act_48 rfl (fun z1 S1 y1 => ?_)
          obtain ⟨rfl, hr⟩ := y1
          refine ks_goto (tgt := 268) dX16_act_51 (by decide) ?_
          refine ks_ret rfl dX16_act_268 ?_
          obtain ⟨e1, e2⟩ := oe_pf (GD := (gdF Gp G9 L b k p m u e inp)) (LK := (lkB G9 L p e inp)) (op := op) (ops := ops) (xs := xs) (ys := ys) (c := bytL gc pb (pe - pb)) (by omega)
          rw [if_neg (show ¬ op ≤ 78 by omega), e1, e2, show opB op nx pb = pb from if_neg (by omega)]
          rw [pf_nm (by omega)]
          exact ⟨rfl, ((hr.op (by omega) v74).mq hM hT9).A v80 v82⟩
  · refine ks_aload_n dX16_act_6 rfl rfl ?_
    refine ks_aload_n dX16_act_7 rfl rfl ?_
    refine ks_iload_n dX16_act_8 rfl rfl ?_
    refine ks_aload_n dX16_act_9 rfl rfl ?_
    refine ks_getf (T := TX16) (kf := 63) kx_2431 rfl in_X16 cl_X16 (by decide) hO rfl dX16_act_10 rfl ?_
    refine ks_tv v63 ?_
    refine ks_subN (by omega) dX16_act_13 rfl ?_
    refine ks_aload_n dX16_act_14 rfl rfl ?_
    refine ks_getf (T := TX16) (kf := 63) kx_2431 rfl in_X16 cl_X16 (by decide) hO rfl dX16_act_15 rfl ?_
    refine ks_tv v63 ?_
    obtain ⟨T, sz, oz, vz, hK', rfl, gS, kS, h367⟩ := hK
    have hK := hK'
    obtain ⟨gr, kgr, hcr, ecr⟩ := id hcd
    obtain ⟨⟨hcy, hN1, hN2, hN3⟩, -⟩ := id hck
    refine ks_callV (n := 3) (M' := mX16_push) (c_rs_push (d := d + 8) hO hK (y := cy) (at_ := nx - pn) (n := pn) hcr kgr (by omega) (Nat.lt_trans hN2 (by decide)) (hcd.ne hck hK.1 hK.2.2.2.2.2.2.2 _)) hO cl_X16 rfl kx_2177 kx_2179 kxp_90 kx_30 kx_2180 (by decide +kernel) rfl (by decide) (Nat.le_of_ble_eq_true rfl) rfl dX16_act_18 rfl (fun z1 S1 y1 => ?_)
    obtain ⟨rfl, T1, sz1, V1, sf1, o1, hv1, hc⟩ := y1
    refine ks_goto (tgt := 268) dX16_act_21 (by decide) ?_
    refine ks_ret rfl dX16_act_268 ?_
    rcases hc with ⟨-, c1, c2, -, c3⟩ | ⟨c1, -⟩
    · have m1 : msK S S1 V V1 (frT T) (frT T1) := ⟨sf1.mono (by decide), o1, fun k h1 _ h3 => hv1 k h1 h3⟩
      have Q1 : rsQ S1 V1 (frT T1) (bytL gr (nx - pn) pn :: xs) ys vs := ⟨T1, sz1, oz, vz, c3, rfl, gS, kS, sf1.2 367 _ h367 (by decide) (fun g h => absurd (kB_lq h) (by decide))⟩
      have ed : bytL gr (nx - pn) pn = bytL gc (nx - pn) pn := bytL_c (fun j hj => ecr _ (by omega))
      rw [ed] at Q1
      have h78 : op ≤ 78 := by omega
      rw [if_pos h78, show opB op nx pb = pb from if_neg (by omega), show opO op xs ops = ops from if_neg (by omega)]
      exact ⟨rfl, V1, _, _, _, (mqK.ms m1).j, hM.ms hT9 m1 Q1, .inl ⟨c2.trans v74, rfl, (m1.2.2 _ (by decide) (by decide) (by decide)).trans v80, (m1.2.2 _ (by decide) (by decide) (by decide)).trans v82⟩⟩
    · exact absurd ⟨h520, by omega⟩ c1

/-! THE REFERENCE: input of an output of the draft -/
set_option maxRecDepth 100000 in
set_option maxHeartbeats 1600000 in
theorem c_mr_inputE {l : Launch} {G : ks_G} {d : Nat} {S : ks_S} {V : Nat → Value} (hO : S.2.2 290 = some (rfE V)) {n : Nat} {B : Nat → Bk} (v47 : V 47 = .int (nI n)) (hR : rbS S n B) {T : List Nat} (hB : buX S V 531 1600 110 T) {i : Nat} (v94 : V 94 = .int (nI (i + 1))) {D : Nat → dTx} (hD : rdS S (i + 1) D) {t : Nat} {ix : Int32} {q : Int64} (ht : t < i + 1) {g529 g305 g530 : Nat → Nat} (h529 : S.2.2 529 = some (kB 131072 g529)) (k529 : kO g529) (hM : mhR S) (h305 : S.2.2 305 = some (kB 32 g305)) (k305 : kO g305) (h530 : S.2.2 530 = some (kB 384 g530)) (k530 : kO g530) (hq : unL q = false) (ho : (D i).2.2.1.length < 6) (hT6 : T.length ≤ 600) : ks_P l G yX16_input_ mX16_input_ (d + 5) [.ref 290, .int (-2), .int (nI t), .int ix, .long q] S (fun z S' => z = some (.int (nI ((D i).2.2.1.length + 1))) ∧ ∃ V', pbK (LDk ++ LDw) [107, 110, 111] S S' V V' ∧ V' 111 = .int (nI 0) ∧ (mhR S' ∧ (∃ g, kO g ∧ S'.2.2 305 = some (kB 32 g)) ∧ (∃ g, kO g ∧ S'.2.2 529 = some (kB 131072 g)) ∧ ∃ g, kO g ∧ S'.2.2 530 = some (kB 384 g)) ∧ buX S' V' 531 1600 110 [] ∧ rdS S' (i + 1) (inZ D i (bytL (txI (D t)) 0 32) ix T q)) := by
  obtain ⟨vT, g, eT, kg, hT, em⟩ := id hB
  obtain ⟨xn, hxn, rfl⟩ := wb_of32 ix
  obtain ⟨⟨bf, h341, hbf⟩, hB9, hn61⟩ := id hR
  have hi12 := hD.1
  obtain ⟨-, ver, loc, inp, out, ids, ixf, seq, iln, val, oln, sc, so, U, A⟩ := id hD
  have hA := A i (by omega)
  have hlen := (rdS_len (S := S) (t := i) (D := D) hA).1
  have h6 := hA.2.1
  obtain ⟨⟨h374, h375, h376, h377⟩, ⟨h378, kid⟩, ⟨h379, h453, h454, h528⟩, ⟨h380, h455⟩, hsc, ksc, hso, kso, hix⟩ := id U
  refine ks_of (by decide) rfl rfl (Nat.le_of_ble_eq_true rfl) ?_
  show ks_X l G mX16_input_ (d + 5) 0 [(0, .ref 290), (1, .int (-2)), (2, .int (nI t)), (3, .int (nI xn)), (4, .long q)] [] S _
  refine ks_iload_n dX16_input__0 rfl rfl ?_
  refine ks_iconst (x := (-1)) dX16_input__1 (by decide) rfl ?_
  refine ks_icmp_eq (tgt := 55) dX16_input__2 (by decide) rfl (fun hc2 => ?_) (fun hc2 => ?_)
  · exact absurd hc2 (by decide)
  · refine ks_iload_n dX16_input__5 rfl rfl ?_
    refine ks_bipush (x := (-2)) dX16_input__6 (by decide) rfl ?_
    refine ks_icmp_ne (tgt := 23) dX16_input__8 (by decide) rfl (fun hc8 => ?_) (fun hc8 => ?_)
    · exact absurd hc8 (by decide)
    · refine ks_iload_n dX16_input__11 rfl rfl ?_
      refine ks_if_ltN (tgt := 23) (by omega) dX16_input__12 (by decide) rfl ?_
      refine ks_iload_n dX16_input__15 rfl rfl ?_
      refine ks_aload_n dX16_input__16 rfl rfl ?_
      refine ks_getf (T := TX16) (kf := 94) kx_2462 rfl in_X16 cl_X16 (by decide) hO rfl dX16_input__17 rfl ?_
      refine ks_tv v94 ?_
      refine ks_icmp_ltN (tgt := 55) (by omega) (by omega) dX16_input__20 (by decide) rfl (fun hc20 => ?_) (fun hc20 => ?_)
      · refine ks_iconst (x := nI 1) dX16_input__55 (by decide) rfl ?_
        refine ks_goto (tgt := 60) dX16_input__56 (by decide) ?_
        refine ks_istore dX16_input__60 (by decide) rfl ?_
        refine ks_sub [(6, _), (0, _), (1, _), (2, _), (3, _), (4, _)] rfl ?_
        refine ks_aload_n dX16_input__62 rfl rfl ?_
        refine ks_iload dX16_input__63 rfl rfl ?_
        refine ks_if_eqN (tgt := 80) (by decide) dX16_input__65 (by decide) rfl (fun hc65 => ?_) (fun hc65 => ?_)
        · exact absurd hc65 (by decide)
        · refine ks_lload dX16_input__68 rfl rfl ?_
          refine ks_callS (n := 1) (M' := mX16_is32) (c_md_is32 (v := q)) kx_2769 kx_2770 kx_30 kx_2771 (by decide +kernel) rfl (by decide) (Nat.le_of_ble_eq_true rfl) rfl dX16_input__70 rfl (fun zi70 Si70 yi70 => ?_)
          obtain ⟨rfl, hqi70⟩ := yi70
          obtain rfl := hqi70.symm
          rw [hq]
          refine ks_ti (y := nI 1) rfl ?_
          refine ks_if_eqN (tgt := 80) (by decide) dX16_input__73 (by decide) rfl (fun hc73 => ?_) (fun hc73 => ?_)
          · exact absurd hc73 (by decide)
          · refine ks_iconst (x := nI 1) dX16_input__76 (by decide) rfl ?_
            refine ks_goto (tgt := 81) dX16_input__77 (by decide) ?_
            refine ks_iconst (x := nI 1) dX16_input__81 (by decide) rfl ?_
            refine ks_callV (n := 2) (M' := mX16_good) (c_md_good1 hO) hO cl_X16 rfl kx_2734 kx_2736 kxp_127 kx_30 kx_2737 (by decide +kernel) rfl (by decide) (Nat.le_of_ble_eq_true rfl) rfl dX16_input__82 rfl (fun z82 S82 y82 => ?_)
            obtain ⟨rfl, V82, J82, v82⟩ := y82
            refine ks_if_eqN (tgt := 147) (by decide) dX16_input__85 (by decide) rfl (fun hc85 => ?_) (fun hc85 => ?_)
            · exact absurd hc85 (by decide)
            · refine ks_aload_n dX16_input__88 rfl rfl ?_
              refine ks_aload_n dX16_input__89 rfl rfl ?_
              refine ks_getf (T := TX16) (kf := 94) kx_2462 rfl in_X16 cl_X16 (by decide) J82.2.1 rfl dX16_input__90 rfl ?_
              refine ks_tv ((J82.2.2 94 (by decide)).trans v94) ?_
              refine ks_if_leN (tgt := 100) (by omega) dX16_input__93 (by decide) rfl (fun hc93 => ?_) (fun hc93 => ?_)
              · refine ks_iconst (x := nI 0) dX16_input__100 (by decide) rfl ?_
                refine ks_iconst (x := nI 2) dX16_input__101 (by decide) rfl ?_
                omega
              · refine ks_iconst (x := nI 1) dX16_input__96 (by decide) rfl ?_
                refine ks_goto (tgt := 101) dX16_input__97 (by decide) ?_
                refine ks_iconst (x := nI 2) dX16_input__101 (by decide) rfl ?_
                refine ks_callV (n := 2) (M' := mX16_good) (c_md_good1 J82.2.1) J82.2.1 cl_X16 rfl kx_2734 kx_2736 kxp_127 kx_30 kx_2737 (by decide +kernel) rfl (by decide) (Nat.le_of_ble_eq_true rfl) rfl dX16_input__102 rfl (fun z102 S102 y102 => ?_)
                obtain ⟨rfl, V102, J102, v102⟩ := y102
                have K102 := J82.trans J102
                refine ks_if_eqN (tgt := 147) (by decide) dX16_input__105 (by decide) rfl (fun hc105 => ?_) (fun hc105 => ?_)
                · exact absurd hc105 (by decide)
                · refine ks_aload_n dX16_input__108 rfl rfl ?_
                  refine ks_aload_n dX16_input__109 rfl rfl ?_
                  refine ks_getf (T := TX16) (kf := 97) kx_2465 rfl in_X16 cl_X16 (by decide) J102.2.1 rfl dX16_input__110 rfl ?_
                  refine ks_aload_n dX16_input__113 rfl rfl ?_
                  refine ks_getf (T := TX16) (kf := 94) kx_2462 rfl in_X16 cl_X16 (by decide) J102.2.1 rfl dX16_input__114 rfl ?_
                  refine ks_tv ((J102.2.2 94 (by decide)).trans ((J82.2.2 94 (by decide)).trans v94)) ?_
                  refine ks_iconst (x := nI 1) dX16_input__117 (by decide) rfl ?_
                  refine ks_subN (by omega) dX16_input__118 rfl ?_
                  refine ks_ti (y := nI (i)) rfl ?_
                  refine ks_ialdN (i := i) (J102.1.at (J82.1.at h376 (by decide)) (by decide)) rfl (by omega) (by decide) dX16_input__119 rfl ?_
                  refine ks_bipush (x := nI 6) dX16_input__120 (by decide) rfl ?_
                  refine ks_icmp_geN (tgt := 139) (by omega) (by decide) dX16_input__122 (by decide) rfl (fun hc122 => ?_) (fun hc122 => ?_)
                  · refine ks_iconst (x := nI 0) dX16_input__139 (by decide) rfl ?_
                    refine ks_iconst (x := nI 3) dX16_input__140 (by decide) rfl ?_
                    omega
                  · refine ks_aload_n dX16_input__125 rfl rfl ?_
                    refine ks_getf (T := TX16) (kf := 110) kx_2478 rfl in_X16 cl_X16 (by decide) J102.2.1 rfl dX16_input__126 rfl ?_
                    refine ks_tv ((J102.2.2 110 (by decide)).trans ((J82.2.2 110 (by decide)).trans vT)) ?_
                    refine ks_sipush (x := nI 600) dX16_input__129 (by decide) rfl ?_
                    refine ks_icmp_gtN (tgt := 139) (by omega) (by decide) dX16_input__132 (by decide) rfl (fun hc132 => ?_) (fun hc132 => ?_)
                    · refine ks_iconst (x := nI 0) dX16_input__139 (by decide) rfl ?_
                      refine ks_iconst (x := nI 3) dX16_input__140 (by decide) rfl ?_
                      omega
                    · refine ks_iconst (x := nI 1) dX16_input__135 (by decide) rfl ?_
                      refine ks_goto (tgt := 140) dX16_input__136 (by decide) ?_
                      refine ks_iconst (x := nI 3) dX16_input__140 (by decide) rfl ?_
                      refine ks_callV (n := 2) (M' := mX16_good) (c_md_good1 J102.2.1) J102.2.1 cl_X16 rfl kx_2734 kx_2736 kxp_127 kx_30 kx_2737 (by decide +kernel) rfl (by decide) (Nat.le_of_ble_eq_true rfl) rfl dX16_input__141 rfl (fun z141 S141 y141 => ?_)
                      obtain ⟨rfl, V141, J141, v141⟩ := y141
                      have K141 := K102.trans J141
                      refine ks_if_neN (tgt := 149) (by decide) dX16_input__144 (by decide) rfl (fun hc144 => ?_) (fun hc144 => ?_)
                      · refine ks_iload_n dX16_input__149 rfl rfl ?_
                        refine ks_bipush (x := (-2)) dX16_input__150 (by decide) rfl ?_
                        refine ks_icmp_ne (tgt := 160) dX16_input__152 (by decide) rfl (fun hc152 => ?_) (fun hc152 => ?_)
                        · exact absurd hc152 (by decide)
                        · refine ks_aload_n dX16_input__155 rfl rfl ?_
                          refine ks_iload_n dX16_input__156 rfl rfl ?_
                          refine ks_callV (n := 1) (M' := mX16_draftId) (c_md_draftId K141.2.1 (hD.up K141.1 (fun x hx => by simp only [List.mem_cons, List.not_mem_nil, or_false] at hx; omega)) ht (K141.1.at h529 (by decide)) k529 (hM.up K141.1 (fun x hx => by simp only [List.mem_cons, List.not_mem_nil, or_false] at hx; omega)) (K141.1.at h305 (by decide)) k305 (K141.1.at h530 (by decide)) k530) J141.2.1 cl_X16 rfl kx_1967 kx_1969 kxp_56 kx_30 kx_1970 (by decide +kernel) rfl (by decide) (Nat.le_of_ble_eq_true rfl) rfl dX16_input__157 rfl (fun z8 S8a y8 => ?_)
                          obtain ⟨rfl, V8a, X8, u8a, o8a, hv8, bu8, mh8, f58, i8⟩ := y8
                          have J8 : pbK LDk [107] S141 S8a V141 V8a := ⟨u8a.mono (by decide), o8a, fun k hk => hv8 k (fun h => hk (by rw [h]; exact List.mem_singleton.mpr rfl))⟩
                          have K8 : pbK LDk [107, 111] S S8a V V8a := (K141.mono (fun a h => absurd h List.not_mem_nil) (by decide)).trans (J8.mono (fun a h => h) (by decide))
                          have ki8 : kO (ks_pt (txI (D t)) g530 (32 * t) 32) := kO_pt (kO_twice _ _) k530 _ _
                          refine ks_bipush (x := nI 6) dX16_input__160 (by decide) rfl ?_
                          refine ks_aload_n dX16_input__162 rfl rfl ?_
                          refine ks_getf (T := TX16) (kf := 94) kx_2462 rfl in_X16 cl_X16 (by decide) o8a rfl dX16_input__163 rfl ?_
                          refine ks_tv ((J8.2.2 94 (by decide)).trans ((J141.2.2 94 (by decide)).trans ((J102.2.2 94 (by decide)).trans ((J82.2.2 94 (by decide)).trans v94)))) ?_
                          refine ks_iconst (x := nI 1) dX16_input__166 (by decide) rfl ?_
                          refine ks_subN (by omega) dX16_input__167 rfl ?_
                          refine ks_ti (y := nI (i)) rfl ?_
                          refine ks_mulN dX16_input__168 rfl ?_
                          refine ks_aload_n dX16_input__169 rfl rfl ?_
                          refine ks_getf (T := TX16) (kf := 97) kx_2465 rfl in_X16 cl_X16 (by decide) o8a rfl dX16_input__170 rfl ?_
                          refine ks_aload_n dX16_input__173 rfl rfl ?_
                          refine ks_getf (T := TX16) (kf := 94) kx_2462 rfl in_X16 cl_X16 (by decide) o8a rfl dX16_input__174 rfl ?_
                          refine ks_tv ((J8.2.2 94 (by decide)).trans ((J141.2.2 94 (by decide)).trans ((J102.2.2 94 (by decide)).trans ((J82.2.2 94 (by decide)).trans v94)))) ?_
                          refine ks_iconst (x := nI 1) dX16_input__177 (by decide) rfl ?_
                          refine ks_subN (by omega) dX16_input__178 rfl ?_
                          refine ks_ti (y := nI (i)) rfl ?_
                          refine ks_ialdN (i := i) (u8a.at (J141.1.at (J102.1.at (J82.1.at h376 (by decide)) (by decide)) (by decide)) (by decide)) rfl (by omega) (by decide) dX16_input__179 rfl ?_
                          refine ks_addN dX16_input__180 rfl ?_
                          refine ks_istore dX16_input__181 (by decide) rfl ?_
                          refine ks_sub [(7, _), (0, _), (1, _), (2, _), (3, _), (4, _), (6, _)] rfl ?_
                          refine ks_aload_n dX16_input__183 rfl rfl ?_
                          refine ks_aload_n dX16_input__184 rfl rfl ?_
                          refine ks_getf (T := TX16) (kf := 94) kx_2462 rfl in_X16 cl_X16 (by decide) o8a rfl dX16_input__185 rfl ?_
                          refine ks_tv ((J8.2.2 94 (by decide)).trans ((J141.2.2 94 (by decide)).trans ((J102.2.2 94 (by decide)).trans ((J82.2.2 94 (by decide)).trans v94)))) ?_
                          refine ks_iconst (x := nI 1) dX16_input__188 (by decide) rfl ?_
                          refine ks_subN (by omega) dX16_input__189 rfl ?_
                          refine ks_ti (y := nI (i)) rfl ?_
                          refine ks_lload dX16_input__190 rfl rfl ?_
                          have B9 : buX S8a V8a 531 1600 110 T := K8.bu hB (by decide) (by decide)
                          have D9 := hD.up K8.1 (fun x hx => by simp only [List.mem_cons, List.not_mem_nil, or_false] at hx; omega)
                          refine ks_callV (n := 2) (M' := mX16_addInput) (c_md_addInput (q := q) K8.2.1 B9 D9 (by omega) (by omega)) o8a cl_X16 rfl kx_1954 kx_1956 kxp_53 kx_30 kx_1957 (by decide +kernel) rfl (by decide) (Nat.le_of_ble_eq_true rfl) rfl dX16_input__192 rfl (fun z7 S7 y7 => ?_)
                          obtain ⟨rfl, V7, J7, B7, D7⟩ := y7
                          have D7' : rdS S7 (i + 1) (inZ D i (bytL (fun _ => 0) 0 32) (-1) T q) := D7
                          obtain ⟨-, ver7, loc7, inp7, out7, ids7, ix7, seq7, iln7, val7, oln7, sc7, so7, U7, A7⟩ := id D7'
                          have A7i := A7 i (by omega)
                          have l7 := (rdS_len (S := S) (t := i) (D := inZ D i (bytL (fun _ => 0) 0 32) (-1) T q) A7i).1
                          have e7 : inZ D i (bytL (fun _ => 0) 0 32) (-1) T q i = ((D i).1, (D i).2.1, (D i).2.2.1 ++ [(bytL (fun _ => 0) 0 32, (-1), T, q)], (D i).2.2.2) := va_up_self _ _ _
                          rw [e7] at l7
                          have l8 : inp7 i = (D i).2.2.1.length + 1 := by rw [← l7]; exact List.length_append
                          have v947 : V7 94 = .int (nI (i + 1)) := (J7.2.2 94 (by decide)).trans ((K8.2.2 94 (by decide)).trans v94)
                          have hlen9 : (D i).2.2.1.length = inp i := hlen
                          obtain ⟨r9, er9⟩ : ∃ r, r = 6 * i + inp i := ⟨_, rfl⟩
                          have hr9 : r9 < 72 := by omega
                          have t7 : ∀ {a : Nat} {e : ks_E}, S8a.2.2 a = some e → (a < 290 ∨ 528 < a) → S7.2.2 a = some e := fun {a e} h1 h2 => J7.1.at h1 (fun hm => by
                            rcases List.mem_cons.mp hm with h | h
                            · omega
                            · have := mem_LDw.mp h
                              omega)
                          have gi7 := t7 i8 (by decide)
                          refine ks_sub [(0, _), (1, _), (2, _), (3, _), (7, .int (nI r9))] (by rw [er9]; rfl) ?_
                          refine ks_iload_n dX16_input__195 rfl rfl ?_
                          refine ks_iconst (x := (-1)) dX16_input__196 (by decide) rfl ?_
                          refine ks_icmp_eq (tgt := 305) dX16_input__197 (by decide) rfl (fun hc197 => ?_) (fun hc197 => ?_)
                          · exact absurd hc197 (by decide)
                          · refine ks_iload_n dX16_input__200 rfl rfl ?_
                            refine ks_bipush (x := (-2)) dX16_input__201 (by decide) rfl ?_
                            refine ks_icmp_ne (tgt := 213) dX16_input__203 (by decide) rfl (fun hc203 => ?_) (fun hc203 => ?_)
                            · exact absurd hc203 (by decide)
                            · refine ks_aload_n dX16_input__206 rfl rfl ?_
                              refine ks_getf (T := TX16) (kf := 108) kx_2476 rfl in_X16 cl_X16 (by decide) J7.2.1 rfl dX16_input__207 rfl ?_
                              refine ks_goto (tgt := 225) dX16_input__210 (by decide) ?_
                              refine ks_astore dX16_input__225 (by decide) rfl ?_
                              refine ks_sub [(8, _), (0, _), (1, _), (2, _), (3, _), (7, _)] rfl ?_
                              refine ks_iconst (x := nI 0) dX16_input__227 (by decide) rfl ?_
                              refine ks_istore dX16_input__228 (by decide) rfl ?_
                              refine ks_sub [(9, _), (0, _), (1, _), (2, _), (3, _), (7, _), (8, _)] rfl ?_
                              refine ks_sub [(0, _), (1, _), (2, _), (3, _), (7, _), (8, .ref 530), (9, _)] rfl (l_inCp (gd := ids7) J7.2.1 gi7 ki8 U7.2.1.1 U7.2.1.2 hr9 (by omega) (by decide) (by omega) (fun S8 u8 e8 k8 => ?_) 32 0 S7 (by decide) (ks_up.rf _ _) (by rw [ks_pt_0]; exact U7.2.1.1))
                              have o8 := u8.at J7.2.1 (by decide)
                              obtain ⟨g8, eg8⟩ : ∃ z, z = ks_pt (fun j => (ks_pt (txI (D t)) g530 (32 * t) 32) (32 * t + j)) ids7 (36 * r9) 32 := ⟨_, rfl⟩
                              rw [← eg8] at e8 k8
                              refine ks_iconst (x := nI 0) dX16_input__266 (by decide) rfl ?_
                              refine ks_istore dX16_input__267 (by decide) rfl ?_
                              refine ks_sub [(9, _), (0, _), (1, _), (2, _), (3, _), (7, _), (8, _)] rfl ?_
                              refine ks_sub [(0, _), (3, _), (7, _), (9, _)] rfl (l_inIx (y := 0) (t := 0) (x0 := 0) (ids := g8) o8 hxn hr9 (fun S9 u9 e9 => ?_) 4 0 S8 (by decide) (ks_up.rf _ _) (by rw [ks_pt_0]; exact e8))
                              have t9 : ∀ {a : Nat} {e : ks_E}, S7.2.2 a = some e → a ≠ 378 → S9.2.2 a = some e := fun h1 h2 => u9.at (u8.at h1 (by rw [List.mem_singleton]; exact h2)) (by rw [List.mem_singleton]; exact h2)
                              have o9 := t9 J7.2.1 (by decide)
                              have i9 := t9 U7.1.2.2.1 (by decide)
                              refine ks_aload_n dX16_input__305 rfl rfl ?_
                              refine ks_getf (T := TX16) (kf := 97) kx_2465 rfl in_X16 cl_X16 (by decide) o9 rfl dX16_input__306 rfl ?_
                              refine ks_aload_n dX16_input__309 rfl rfl ?_
                              refine ks_getf (T := TX16) (kf := 94) kx_2462 rfl in_X16 cl_X16 (by decide) o9 rfl dX16_input__310 rfl ?_
                              refine ks_tv v947 ?_
                              refine ks_iconst (x := nI 1) dX16_input__313 (by decide) rfl ?_
                              refine ks_subN (by omega) dX16_input__314 rfl ?_
                              refine ks_ti (y := nI (i)) rfl ?_
                              refine ks_ialdN (i := i) i9 rfl (by omega) (by decide) dX16_input__315 rfl ?_
                              refine ks_iret rfl dX16_input__316 ?_
                              have m9 : ∀ {a : Nat}, 374 ≤ a → a < 529 → a ∈ 290 :: (LDk ++ LDw) := fun h1 h2 => List.mem_cons_of_mem _ (List.mem_append_right _ (mem_LDw.mpr ⟨h1, h2⟩))
                              have K7 : pbK (LDk ++ LDw) [107, 110, 111] S S7 V V7 := (K8.mono (fun a h => List.mem_append_left _ h) (by decide)).trans (J7.mono (fun a h => List.mem_append_right _ h) (by decide))
                              have K9 : pbK (LDk ++ LDw) [107, 110, 111] S S9 V V7 := ⟨(K7.1.trans (u8.mono (fun a ha => by rw [List.mem_singleton] at ha; rw [ha]; exact m9 (by decide) (by decide)))).trans (u9.mono (fun a ha => by rw [List.mem_singleton] at ha; rw [ha]; exact m9 (by decide) (by decide))), o9, K7.2.2⟩
                              obtain ⟨eD7, h67, o67, hi67, ho67⟩ := A7i
                              have hL7 := congrArg (fun z : dTx => z.2.2.1) eD7
                              rw [e7] at hL7
                              have hin : inp7 i = inp i + 1 := by rw [l8, hlen9]
                              have hL8 : (D i).2.2.1 ++ [(bytL (fun _ => 0) 0 32, (-1), T, q)] = (List.range (inp i)).map (fun j => rdI ids7 ix7 sc7 iln7 seq7 (6 * i + j)) ++ [rdI ids7 ix7 sc7 iln7 seq7 r9] := by
                                refine Eq.trans hL7 ?_
                                show (List.range (inp7 i)).map (fun j => rdI ids7 ix7 sc7 iln7 seq7 (6 * i + j)) = _
                                rw [hin, List.range_succ, List.map_append, er9]
                                rfl
                              obtain ⟨hLa, hLb⟩ := List.append_inj' hL8 rfl
                              have hLc := List.cons.inj hLb
                              have hT9 : T = bytL (sc7 r9) 0 (iln7 r9) := congrArg (fun z : dIn => z.2.2.1) hLc.1
                              have hq9 : q = seq7 r9 := congrArg (fun z : dIn => z.2.2.2) hLc.1
                              have j7 : ∀ {a : Nat} {e : ks_E}, S8a.2.2 a = some e → a < 374 ∨ 528 < a → a ≠ 290 → S7.2.2 a = some e := fun h1 h2 h3 => J7.1.at h1 (fun hm => by
                                rcases List.mem_cons.mp hm with h | h
                                · exact h3 h
                                · have := mem_LDw.mp h; omega)
                              have mh9 : mhR S9 := ((mh8.up J7.1 (fun x hx => by
                                rcases List.mem_cons.mp hx with rfl | hx
                                · omega
                                · have := mem_LDw.mp hx; omega)).up u8 (fun x hx => by rw [List.mem_singleton] at hx; omega)).up u9 (fun x hx => by rw [List.mem_singleton] at hx; omega)
                              have x305 : ∃ g, kO g ∧ S9.2.2 305 = some (kB 32 g) := by
                                obtain ⟨g, h1, h2⟩ := f58
                                exact ⟨g, h1, t9 (j7 h2 (by decide) (by decide)) (by decide)⟩
                              have x529 : ∃ g, kO g ∧ S9.2.2 529 = some (kB 131072 g) := by
                                obtain ⟨_, g, h2, h1, _⟩ := bu8
                                exact ⟨g, h1, t9 (j7 h2 (by decide) (by decide)) (by decide)⟩
                              have x530 : ∃ g, kO g ∧ S9.2.2 530 = some (kB 384 g) := ⟨_, ki8, t9 (j7 i8 (by decide) (by decide)) (by decide)⟩
                              refine ⟨by rw [l8], V7, K9, (J7.2.2 111 (by decide)).trans ((J8.2.2 111 (by decide)).trans v141), ⟨mh9, x305, x529, x530⟩, ?_, hi12, ver7, loc7, inp7, out7, ks_pt (fun k => xn / 256 ^ k % 256) g8 (36 * r9 + 32) 4, va_up ix7 r9 (nI xn), seq7, iln7, val7, oln7, sc7, so7, ?_, fun j hj => ?_⟩
                              · obtain ⟨b1, gz, b2, b3⟩ := B7
                                exact ⟨b1, gz, t9 b2 (by decide), b3⟩
                              · obtain ⟨⟨y374, y375, y376, y377⟩, ⟨y378, yid⟩, ⟨y379, y453, y454, y528⟩, ⟨y380, y455⟩, ysc, yks, yso, ykso, yix⟩ := id U7
                                refine ⟨⟨t9 y374 (by decide), t9 y375 (by decide), t9 y376 (by decide), t9 y377 (by decide)⟩, ⟨e9, kO_pt (fun k => Nat.mod_lt _ (by decide)) k8 _ _⟩, ⟨t9 y379 (by decide), t9 y453 (by decide), t9 y454 (by decide), t9 y528 (by decide)⟩, ⟨t9 y380 (by decide), t9 y455 (by decide)⟩, fun r hr => t9 (ysc r hr) (by omega), yks, fun r hr => t9 (yso r hr) (by omega), ykso, fun r hr => ?_⟩
                                by_cases h : r = r9
                                · rw [h, va_up_self, numL_nI hxn]
                                  unfold bytL
                                  exact List.map_congr_left (fun k hk => ks_pt_in _ _ _ _ (List.mem_range.mp hk))
                                · rw [va_up_ne _ _ h, ← yix r hr]
                                  refine bytL_congr (fun k hk => ?_)
                                  refine Eq.trans (if_neg (by omega)) ?_
                                  rw [eg8]
                                  exact if_neg (by omega)
                              · by_cases h : j = i
                                · subst h
                                  refine ⟨?_, h67, o67, hi67, ho67⟩
                                  rw [show inZ D j (bytL (txI (D t)) 0 32) (nI xn) T q j = _ from va_up_self _ _ _]
                                  have eD8 := eD7
                                  rw [e7] at eD8
                                  have q1 := congrArg (fun z : dTx => z.1) eD8
                                  have q2 := congrArg (fun z : dTx => z.2.1) eD8
                                  have q3 := congrArg (fun z : dTx => z.2.2.2) eD8
                                  show ((D j).1, (D j).2.1, (D j).2.2.1 ++ [(bytL (txI (D t)) 0 32, nI xn, T, q)], (D j).2.2.2) = _
                                  rw [show (D j).1 = ver7 j from q1, show (D j).2.1 = loc7 j from q2, show (D j).2.2.2 = _ from q3, hLa, hin, List.range_succ, List.map_append]
                                  refine rd_pair ?_ rfl
                                  rw [List.map_append]
                                  refine congr (congrArg _ (List.map_congr_left (fun z hz => ?_))) ?_
                                  · have hz := List.mem_range.mp hz
                                    unfold rdI
                                    rw [va_up_ne _ _ (by omega), show bytL (ks_pt (fun k => xn / 256 ^ k % 256) g8 (36 * r9 + 32) 4) (36 * (6 * j + z)) 32 = bytL ids7 (36 * (6 * j + z)) 32 from bytL_congr (fun k hk => by
                                      refine Eq.trans (if_neg (by omega)) ?_
                                      rw [eg8]
                                      exact if_neg (by omega))]
                                  · show _ = [rdI (ks_pt (fun k => xn / 256 ^ k % 256) g8 (36 * r9 + 32) 4) (va_up ix7 r9 (nI xn)) sc7 iln7 seq7 (6 * j + inp j)]
                                    rw [← er9]
                                    unfold rdI
                                    rw [va_up_self, ← hT9, ← hq9, show bytL (ks_pt (fun k => xn / 256 ^ k % 256) g8 (36 * r9 + 32) 4) (36 * r9) 32 = bytL (txI (D t)) 0 32 from bytL_congr (fun k hk => by
                                      refine Eq.trans (if_neg (by omega)) ?_
                                      rw [eg8, Nat.zero_add]
                                      refine Eq.trans (ks_pt_in _ _ _ _ hk) ?_
                                      exact ks_pt_in _ _ _ _ hk)]
                                · have e9j : inZ D i (bytL (txI (D t)) 0 32) (nI xn) T q j = inZ D i (bytL (fun _ => 0) 0 32) (-1) T q j := (va_up_ne _ _ h).trans (va_up_ne _ _ h).symm
                                  rw [e9j]
                                  exact rdA_cg (A7 j hj) rfl rfl rfl rfl (fun r h1 h2 => ⟨fun k hk => by
                                    refine Eq.trans (if_neg (by omega)) ?_
                                    rw [eg8]
                                    exact if_neg (by omega), va_up_ne _ _ (by omega), rfl, rfl, rfl, rfl, rfl, rfl⟩)
                      · exact absurd hc144 (by decide)
      · omega
/-- input of an output of the draft -/
theorem rqS.ie {S S1 : ks_S} {V V1 : Nat → Value} {F n best : Nat} {B : Nat → Bk} {C R : List Nat} {t : Nat} {D D1 : Nat → dTx} {T T1 : List Nat} {q : Nat} {dt : Int64} {rs : Nat} (h : rqS S V F n best B C R t D T q dt rs) (k : pbK (LDk ++ LDw) [107, 110, 111] S S1 V V1) (hA : mhR S1 ∧ (∃ g, kO g ∧ S1.2.2 305 = some (kB 32 g)) ∧ (∃ g, kO g ∧ S1.2.2 529 = some (kB 131072 g)) ∧ ∃ g, kO g ∧ S1.2.2 530 = some (kB 384 g)) (hD : rdS S1 t D1) (hT : buX S1 V1 531 1600 110 T1) : rqS S1 V1 F n best B C R t D1 T1 q dt rs := by
  have z1 : ∀ x ∈ 290 :: LDk, (x < 300 ∨ x = 305 ∨ x = 529 ∨ x = 530) ∧ rqU x = false := by decide
  have hz : ∀ x ∈ 290 :: (LDk ++ LDw), ((x < 300 ∨ x = 305 ∨ x = 529 ∨ x = 530) ∧ rqU x = false) ∨ (374 ≤ x ∧ x ≤ 528) := fun x hx => by
    rcases List.mem_cons.mp hx with rfl | hx
    · exact Or.inl (z1 _ List.mem_cons_self)
    · rcases List.mem_append.mp hx with hx | hx
      · exact Or.inl (z1 x (List.mem_cons_of_mem _ hx))
      · have := mem_LDw.mp hx
        exact Or.inr (by omega)
  have z3 : ∀ x, x ∈ 290 :: (LDk ++ LDw) → (x < 300 ∨ x = 305 ∨ x = 529 ∨ x = 530) ∨ (374 ≤ x ∧ x ≤ 528) := fun x hx => by
    rcases hz x hx with h | h
    · exact Or.inl h.1
    · exact Or.inr h
  refine h.pb k (h.1.upd k.1.fr k.2.1 (h.1.rs k (fun x hx => by have := z3 x (List.mem_cons_of_mem _ hx); omega) (by decide)) (fun x hx _ hu => ?_) (Or.inl hA.1) (Or.inr fun x hx => by have := z3 x hx; omega) (Or.inr fun x hx => by have := z3 x hx; omega) (Or.inr ⟨fun hm => by have := z3 _ hm; omega, k.2.2 _ (by decide)⟩) (Or.inr ⟨⟨fun hm => by have := z3 _ hm; omega, fun hm => by have := z3 _ hm; omega⟩, k.2.2 _ (by decide), k.2.2 _ (by decide), k.2.2 _ (by decide)⟩) ⟨fun hm => by have := z3 _ hm; omega, Or.inr fun hm => by have := z3 _ hm; omega⟩ (fun hm => by have := z3 _ hm; omega) (Or.inr fun x hm => by have := z3 _ hm; omega) (Or.inr fun x hm => by have := z3 _ hm; omega) (fun p hp hm => ?_)) (fun x hx => by have := z3 x (List.mem_cons_of_mem _ hx); omega) (by decide) ⟨hD, (k.2.2 _ (by decide)).trans h.2.2.2.2.2.2.1.2⟩ hT (h.pq k (by decide)) (h.p5 k (by decide))
  · rcases hz x hx with h1 | h1
    · rw [h1.2] at hu; cases hu
    · exact rd_low hD x (mem_LDw.mpr (by omega))
  · have z4 : ∀ p ∈ shL, ((p.1 < 300 ∨ p.1 = 305 ∨ p.1 = 529 ∨ p.1 = 530) ∨ (374 ≤ p.1 ∧ p.1 ≤ 528)) → p = (305, 0, 32) ∨ p = (529, 0, 131072) ∨ p = (530, 0, 384) := by decide
    rcases z4 p hp (z3 _ hm) with rfl | rfl | rfl
    · exact hA.2.1
    · exact hA.2.2.1
    · exact hA.2.2.2

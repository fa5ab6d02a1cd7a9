/-! THE REFERENCE: its constructor, rows 291 to 544 -/
set_option maxRecDepth 100000 in
set_option maxHeartbeats 800000 in
theorem l_i0 {l : Launch} {G : ks_G} {d : Nat} {S0 S : ks_S} {F : Nat → Value} (h : icS S0 S 291 0 F) {P9 : Option Value → ks_S → Prop} (hk : ∀ S1, icS S0 S1 300 298 (va_up (va_up (va_up (va_up (va_up (va_up (va_up (va_up (va_up (F) 0 (.ref 291)) 1 (.ref 292)) 2 (.ref 293)) 3 (.ref 294)) 4 (.ref 295)) 5 (.ref 296)) 6 (.ref 297)) 7 (.ref 298)) 8 (.ref 299)) → ks_X l G mX16_init (d + 2) 76 [(0, .ref 290)] [] S1 P9) : ks_X l G mX16_init (d + 2) 4 [(0, .ref 290)] [] S P9 := by
  refine ks_aload_n dX16_init_4 rfl rfl ?_
  refine ks_sipush (x := nI 128) dX16_init_5 (by decide) rfl ?_
  refine in_nB (n := 291) (n' := 292) (m' := 128) (N := 128) h (by decide) rfl (by decide) rfl rfl kx_74 dX16_init_8 rfl (fun U1 h1 => ?_)
  refine in_pF (kf := 0) h1 (by decide) kx_2368 rfl (by decide) rfl rfl rfl dX16_init_10 rfl (fun U2 h2 => ?_)
  refine ks_aload_n dX16_init_13 rfl rfl ?_
  refine ks_bipush (x := nI 8) dX16_init_14 (by decide) rfl ?_
  refine in_nN (n := 292) (n' := 293) (m' := 136) (N := 8) h2 (by decide) rfl (by decide) rfl rfl kx_100 dX16_init_16 rfl (fun U3 h3 => ?_)
  refine in_pF (kf := 1) h3 (by decide) kx_2369 rfl (by decide) rfl rfl rfl dX16_init_18 rfl (fun U4 h4 => ?_)
  refine ks_aload_n dX16_init_21 rfl rfl ?_
  refine ks_bipush (x := nI 64) dX16_init_22 (by decide) rfl ?_
  refine in_nN (n := 293) (n' := 294) (m' := 200) (N := 64) h4 (by decide) rfl (by decide) rfl rfl kx_100 dX16_init_24 rfl (fun U5 h5 => ?_)
  refine in_pF (kf := 2) h5 (by decide) kx_2370 rfl (by decide) rfl rfl rfl dX16_init_26 rfl (fun U6 h6 => ?_)
  refine ks_aload_n dX16_init_29 rfl rfl ?_
  refine ks_bipush (x := nI 8) dX16_init_30 (by decide) rfl ?_
  refine in_nN (n := 294) (n' := 295) (m' := 208) (N := 8) h6 (by decide) rfl (by decide) rfl rfl kx_100 dX16_init_32 rfl (fun U7 h7 => ?_)
  refine in_pF (kf := 3) h7 (by decide) kx_2371 rfl (by decide) rfl rfl rfl dX16_init_34 rfl (fun U8 h8 => ?_)
  refine ks_aload_n dX16_init_37 rfl rfl ?_
  refine ks_bipush (x := nI 64) dX16_init_38 (by decide) rfl ?_
  refine in_nN (n := 295) (n' := 296) (m' := 272) (N := 64) h8 (by decide) rfl (by decide) rfl rfl kx_100 dX16_init_40 rfl (fun U9 h9 => ?_)
  refine in_pF (kf := 4) h9 (by decide) kx_2372 rfl (by decide) rfl rfl rfl dX16_init_42 rfl (fun U10 h10 => ?_)
  refine ks_aload_n dX16_init_45 rfl rfl ?_
  refine ks_iconst (x := nI 3) dX16_init_46 (by decide) rfl ?_
  refine in_nL (n := 296) (n' := 297) (m' := 275) (N := 3) h10 (by decide) rfl (by decide) rfl rfl kx_142 dX16_init_47 rfl (fun U11 h11 => ?_)
  refine in_pF (kf := 5) h11 (by decide) kx_2373 rfl (by decide) rfl rfl rfl dX16_init_49 rfl (fun U12 h12 => ?_)
  refine ks_aload_n dX16_init_52 rfl rfl ?_
  refine ks_bipush (x := nI 6) dX16_init_53 (by decide) rfl ?_
  refine in_nL (n := 297) (n' := 298) (m' := 281) (N := 6) h12 (by decide) rfl (by decide) rfl rfl kx_142 dX16_init_55 rfl (fun U13 h13 => ?_)
  refine in_pF (kf := 6) h13 (by decide) kx_2374 rfl (by decide) rfl rfl rfl dX16_init_57 rfl (fun U14 h14 => ?_)
  refine ks_aload_n dX16_init_60 rfl rfl ?_
  refine ks_bipush (x := nI 9) dX16_init_61 (by decide) rfl ?_
  refine in_nL (n := 298) (n' := 299) (m' := 290) (N := 9) h14 (by decide) rfl (by decide) rfl rfl kx_142 dX16_init_63 rfl (fun U15 h15 => ?_)
  refine in_pF (kf := 7) h15 (by decide) kx_2375 rfl (by decide) rfl rfl rfl dX16_init_65 rfl (fun U16 h16 => ?_)
  refine ks_aload_n dX16_init_68 rfl rfl ?_
  refine ks_bipush (x := nI 8) dX16_init_69 (by decide) rfl ?_
  refine in_nN (n := 299) (n' := 300) (m' := 298) (N := 8) h16 (by decide) rfl (by decide) rfl rfl kx_100 dX16_init_71 rfl (fun U17 h17 => ?_)
  refine in_pF (kf := 8) h17 (by decide) kx_2376 rfl (by decide) rfl rfl rfl dX16_init_73 rfl (fun U18 h18 => ?_)
  exact hk _ h18
set_option maxRecDepth 100000 in
set_option maxHeartbeats 800000 in
theorem l_i1 {l : Launch} {G : ks_G} {d : Nat} {S0 S : ks_S} {F : Nat → Value} (h : icS S0 S 300 298 F) {P9 : Option Value → ks_S → Prop} (hk : ∀ S1, icS S0 S1 306 670 (va_up (va_up (va_up (va_up (va_up (va_up (F) 9 (.ref 300)) 10 (.ref 301)) 11 (.ref 302)) 12 (.ref 303)) 13 (.ref 304)) 14 (.ref 305)) → ks_X l G mX16_init (d + 2) 2080 [(0, .ref 290)] [] S1 P9) : ks_X l G mX16_init (d + 2) 76 [(0, .ref 290)] [] S P9 := by
  refine ks_aload_n dX16_init_76 rfl rfl ?_
  refine ks_sipush (x := nI 160) dX16_init_77 (by decide) rfl ?_
  refine ks_newNx (N := 160) (x := 300) h.1 kx_100 (by decide) (by unfold ks_B; decide) dX16_init_80 rfl (fun T1 q1 => ?_)
  refine l_inO q1.2.2.1 (fun U1 u1 c1 => ?_)
  have h1 := h.one (show 291 ≤ 300 by decide) q1 u1 c1 rfl (show 298 + 160 = 458 from rfl)
  refine in_pF (kf := 9) h1 (by decide) kx_2377 rfl (by decide) rfl rfl rfl dX16_init_1008 rfl (fun U2 h2 => ?_)
  refine ks_aload_n dX16_init_1011 rfl rfl ?_
  refine ks_sipush (x := nI 160) dX16_init_1012 (by decide) rfl ?_
  refine ks_newNx (N := 160) (x := 301) h2.1 kx_100 (by decide) (by unfold ks_B; decide) dX16_init_1015 rfl (fun T3 q3 => ?_)
  refine l_inT q3.2.2.1 (fun U3 u3 c3 => ?_)
  have h3 := h2.one (show 291 ≤ 301 by decide) q3 u3 c3 rfl (show 458 + 160 = 618 from rfl)
  refine in_pF (kf := 10) h3 (by decide) kx_2378 rfl (by decide) rfl rfl rfl dX16_init_1987 rfl (fun U4 h4 => ?_)
  refine ks_aload_n dX16_init_1990 rfl rfl ?_
  refine ks_bipush (x := nI 10) dX16_init_1991 (by decide) rfl ?_
  refine ks_newNx (N := 10) (x := 302) h4.1 kx_100 (by decide) (by unfold ks_B; decide) dX16_init_1993 rfl (fun T5 q5 => ?_)
  refine l_inA q5.2.2.1 (fun U5 u5 c5 => ?_)
  have h5 := h4.one (show 291 ≤ 302 by decide) q5 u5 c5 rfl (show 618 + 10 = 628 from rfl)
  refine in_pF (kf := 11) h5 (by decide) kx_2379 rfl (by decide) rfl rfl rfl dX16_init_2055 rfl (fun U6 h6 => ?_)
  refine ks_aload_n dX16_init_2058 rfl rfl ?_
  refine ks_iconst (x := nI 5) dX16_init_2059 (by decide) rfl ?_
  refine in_nN (n := 303) (n' := 304) (m' := 633) (N := 5) h6 (by decide) rfl (by decide) rfl rfl kx_100 dX16_init_2060 rfl (fun U7 h7 => ?_)
  refine in_pF (kf := 12) h7 (by decide) kx_2380 rfl (by decide) rfl rfl rfl dX16_init_2062 rfl (fun U8 h8 => ?_)
  refine ks_aload_n dX16_init_2065 rfl rfl ?_
  refine ks_iconst (x := nI 5) dX16_init_2066 (by decide) rfl ?_
  refine in_nN (n := 304) (n' := 305) (m' := 638) (N := 5) h8 (by decide) rfl (by decide) rfl rfl kx_100 dX16_init_2067 rfl (fun U9 h9 => ?_)
  refine in_pF (kf := 13) h9 (by decide) kx_2381 rfl (by decide) rfl rfl rfl dX16_init_2069 rfl (fun U10 h10 => ?_)
  refine ks_aload_n dX16_init_2072 rfl rfl ?_
  refine ks_bipush (x := nI 32) dX16_init_2073 (by decide) rfl ?_
  refine in_nB (n := 305) (n' := 306) (m' := 670) (N := 32) h10 (by decide) rfl (by decide) rfl rfl kx_74 dX16_init_2075 rfl (fun U11 h11 => ?_)
  refine in_pF (kf := 14) h11 (by decide) kx_2382 rfl (by decide) rfl rfl rfl dX16_init_2077 rfl (fun U12 h12 => ?_)
  exact hk _ h12
set_option maxRecDepth 100000 in
set_option maxHeartbeats 800000 in
theorem l_i2 {l : Launch} {G : ks_G} {d : Nat} {S0 S : ks_S} {F : Nat → Value} (h : icS S0 S 306 670 F) {P9 : Option Value → ks_S → Prop} (hk : ∀ S1, icS S0 S1 323 786 (va_up (va_up (va_up (va_up (va_up (F) 17 (.ref 306)) 18 (.ref 307)) 19 (.ref 311)) 20 (.ref 315)) 21 (.ref 319)) → ks_X l G mX16_init (d + 2) 2132 [(0, .ref 290)] [] S1 P9) : ks_X l G mX16_init (d + 2) 2080 [(0, .ref 290)] [] S P9 := by
  refine ks_aload_n dX16_init_2080 rfl rfl ?_
  refine ks_bipush (x := nI 8) dX16_init_2081 (by decide) rfl ?_
  refine in_nN (n := 306) (n' := 307) (m' := 678) (N := 8) h (by decide) rfl (by decide) rfl rfl kx_100 dX16_init_2083 rfl (fun U1 h1 => ?_)
  refine in_pF (kf := 17) h1 (by decide) kx_2385 rfl (by decide) rfl rfl rfl dX16_init_2085 rfl (fun U2 h2 => ?_)
  refine ks_aload_n dX16_init_2088 rfl rfl ?_
  refine ks_newcx (ci := 17) (x := 307) (ty0 := tyX14) (fs := [.null, .null, .null]) h2.1 kx_1786 kx_1787 kx_31 in_X14 tyX14_ok cl_X14 (fun j hj => by rcases j with _ | _ | _ | j <;> first | rfl | (exfalso; omega)) rfl (by unfold ks_B; decide) dX16_init_2089 rfl (fun T3 q3 => ?_)
  refine ks_dup dX16_init_2092 rfl rfl ?_
  refine ks_callIN (n := 0) (M' := mX14_init) (c_pn_init (d := d) (P := 307) q3.2.2.1 q3.1 (by unfold ks_B; decide)) rfl rfl kx_1788 kx_1789 kx_31 kx_1790 (by decide +kernel) rfl (by decide) (Nat.le_of_ble_eq_true rfl) rfl dX16_init_2093 rfl (fun z3 U3 y3 => ?_)
  obtain ⟨rfl, y3⟩ := y3
  have h3 := in_nP (n := 307) (n' := 311) (m' := 705) h2 (by decide) q3 y3 rfl rfl rfl rfl rfl rfl
  refine in_pF (kf := 18) h3 (by decide) kx_2386 rfl (by decide) rfl rfl rfl dX16_init_2096 rfl (fun U4 h4 => ?_)
  refine ks_aload_n dX16_init_2099 rfl rfl ?_
  refine ks_newcx (ci := 17) (x := 311) (ty0 := tyX14) (fs := [.null, .null, .null]) h4.1 kx_1786 kx_1787 kx_31 in_X14 tyX14_ok cl_X14 (fun j hj => by rcases j with _ | _ | _ | j <;> first | rfl | (exfalso; omega)) rfl (by unfold ks_B; decide) dX16_init_2100 rfl (fun T5 q5 => ?_)
  refine ks_dup dX16_init_2103 rfl rfl ?_
  refine ks_callIN (n := 0) (M' := mX14_init) (c_pn_init (d := d) (P := 311) q5.2.2.1 q5.1 (by unfold ks_B; decide)) rfl rfl kx_1788 kx_1789 kx_31 kx_1790 (by decide +kernel) rfl (by decide) (Nat.le_of_ble_eq_true rfl) rfl dX16_init_2104 rfl (fun z5 U5 y5 => ?_)
  obtain ⟨rfl, y5⟩ := y5
  have h5 := in_nP (n := 311) (n' := 315) (m' := 732) h4 (by decide) q5 y5 rfl rfl rfl rfl rfl rfl
  refine in_pF (kf := 19) h5 (by decide) kx_2387 rfl (by decide) rfl rfl rfl dX16_init_2107 rfl (fun U6 h6 => ?_)
  refine ks_aload_n dX16_init_2110 rfl rfl ?_
  refine ks_newcx (ci := 17) (x := 315) (ty0 := tyX14) (fs := [.null, .null, .null]) h6.1 kx_1786 kx_1787 kx_31 in_X14 tyX14_ok cl_X14 (fun j hj => by rcases j with _ | _ | _ | j <;> first | rfl | (exfalso; omega)) rfl (by unfold ks_B; decide) dX16_init_2111 rfl (fun T7 q7 => ?_)
  refine ks_dup dX16_init_2114 rfl rfl ?_
  refine ks_callIN (n := 0) (M' := mX14_init) (c_pn_init (d := d) (P := 315) q7.2.2.1 q7.1 (by unfold ks_B; decide)) rfl rfl kx_1788 kx_1789 kx_31 kx_1790 (by decide +kernel) rfl (by decide) (Nat.le_of_ble_eq_true rfl) rfl dX16_init_2115 rfl (fun z7 U7 y7 => ?_)
  obtain ⟨rfl, y7⟩ := y7
  have h7 := in_nP (n := 315) (n' := 319) (m' := 759) h6 (by decide) q7 y7 rfl rfl rfl rfl rfl rfl
  refine in_pF (kf := 20) h7 (by decide) kx_2388 rfl (by decide) rfl rfl rfl dX16_init_2118 rfl (fun U8 h8 => ?_)
  refine ks_aload_n dX16_init_2121 rfl rfl ?_
  refine ks_newcx (ci := 17) (x := 319) (ty0 := tyX14) (fs := [.null, .null, .null]) h8.1 kx_1786 kx_1787 kx_31 in_X14 tyX14_ok cl_X14 (fun j hj => by rcases j with _ | _ | _ | j <;> first | rfl | (exfalso; omega)) rfl (by unfold ks_B; decide) dX16_init_2122 rfl (fun T9 q9 => ?_)
  refine ks_dup dX16_init_2125 rfl rfl ?_
  refine ks_callIN (n := 0) (M' := mX14_init) (c_pn_init (d := d) (P := 319) q9.2.2.1 q9.1 (by unfold ks_B; decide)) rfl rfl kx_1788 kx_1789 kx_31 kx_1790 (by decide +kernel) rfl (by decide) (Nat.le_of_ble_eq_true rfl) rfl dX16_init_2126 rfl (fun z9 U9 y9 => ?_)
  obtain ⟨rfl, y9⟩ := y9
  have h9 := in_nP (n := 319) (n' := 323) (m' := 786) h8 (by decide) q9 y9 rfl rfl rfl rfl rfl rfl
  refine in_pF (kf := 21) h9 (by decide) kx_2389 rfl (by decide) rfl rfl rfl dX16_init_2129 rfl (fun U10 h10 => ?_)
  exact hk _ h10
set_option maxRecDepth 100000 in
set_option maxHeartbeats 800000 in
theorem l_i3 {l : Launch} {G : ks_G} {d : Nat} {S0 S : ks_S} {F : Nat → Value} (h : icS S0 S 323 786 F) {P9 : Option Value → ks_S → Prop} (hk : ∀ S1, icS S0 S1 336 890 (va_up (va_up (va_up (va_up (va_up (va_up (va_up (va_up (va_up (va_up (va_up (va_up (va_up (F) 22 (.ref 323)) 23 (.ref 324)) 24 (.ref 325)) 25 (.ref 326)) 26 (.ref 327)) 27 (.ref 328)) 28 (.ref 329)) 29 (.ref 330)) 30 (.ref 331)) 31 (.ref 332)) 32 (.ref 333)) 33 (.ref 334)) 34 (.ref 335)) → ks_X l G mX16_init (d + 2) 2236 [(0, .ref 290)] [] S1 P9) : ks_X l G mX16_init (d + 2) 2132 [(0, .ref 290)] [] S P9 := by
  refine ks_aload_n dX16_init_2132 rfl rfl ?_
  refine ks_bipush (x := nI 8) dX16_init_2133 (by decide) rfl ?_
  refine in_nN (n := 323) (n' := 324) (m' := 794) (N := 8) h (by decide) rfl (by decide) rfl rfl kx_100 dX16_init_2135 rfl (fun U1 h1 => ?_)
  refine in_pF (kf := 22) h1 (by decide) kx_2390 rfl (by decide) rfl rfl rfl dX16_init_2137 rfl (fun U2 h2 => ?_)
  refine ks_aload_n dX16_init_2140 rfl rfl ?_
  refine ks_bipush (x := nI 8) dX16_init_2141 (by decide) rfl ?_
  refine in_nN (n := 324) (n' := 325) (m' := 802) (N := 8) h2 (by decide) rfl (by decide) rfl rfl kx_100 dX16_init_2143 rfl (fun U3 h3 => ?_)
  refine in_pF (kf := 23) h3 (by decide) kx_2391 rfl (by decide) rfl rfl rfl dX16_init_2145 rfl (fun U4 h4 => ?_)
  refine ks_aload_n dX16_init_2148 rfl rfl ?_
  refine ks_bipush (x := nI 8) dX16_init_2149 (by decide) rfl ?_
  refine in_nN (n := 325) (n' := 326) (m' := 810) (N := 8) h4 (by decide) rfl (by decide) rfl rfl kx_100 dX16_init_2151 rfl (fun U5 h5 => ?_)
  refine in_pF (kf := 24) h5 (by decide) kx_2392 rfl (by decide) rfl rfl rfl dX16_init_2153 rfl (fun U6 h6 => ?_)
  refine ks_aload_n dX16_init_2156 rfl rfl ?_
  refine ks_bipush (x := nI 8) dX16_init_2157 (by decide) rfl ?_
  refine in_nN (n := 326) (n' := 327) (m' := 818) (N := 8) h6 (by decide) rfl (by decide) rfl rfl kx_100 dX16_init_2159 rfl (fun U7 h7 => ?_)
  refine in_pF (kf := 25) h7 (by decide) kx_2393 rfl (by decide) rfl rfl rfl dX16_init_2161 rfl (fun U8 h8 => ?_)
  refine ks_aload_n dX16_init_2164 rfl rfl ?_
  refine ks_bipush (x := nI 8) dX16_init_2165 (by decide) rfl ?_
  refine in_nN (n := 327) (n' := 328) (m' := 826) (N := 8) h8 (by decide) rfl (by decide) rfl rfl kx_100 dX16_init_2167 rfl (fun U9 h9 => ?_)
  refine in_pF (kf := 26) h9 (by decide) kx_2394 rfl (by decide) rfl rfl rfl dX16_init_2169 rfl (fun U10 h10 => ?_)
  refine ks_aload_n dX16_init_2172 rfl rfl ?_
  refine ks_bipush (x := nI 8) dX16_init_2173 (by decide) rfl ?_
  refine in_nN (n := 328) (n' := 329) (m' := 834) (N := 8) h10 (by decide) rfl (by decide) rfl rfl kx_100 dX16_init_2175 rfl (fun U11 h11 => ?_)
  refine in_pF (kf := 27) h11 (by decide) kx_2395 rfl (by decide) rfl rfl rfl dX16_init_2177 rfl (fun U12 h12 => ?_)
  refine ks_aload_n dX16_init_2180 rfl rfl ?_
  refine ks_bipush (x := nI 8) dX16_init_2181 (by decide) rfl ?_
  refine in_nN (n := 329) (n' := 330) (m' := 842) (N := 8) h12 (by decide) rfl (by decide) rfl rfl kx_100 dX16_init_2183 rfl (fun U13 h13 => ?_)
  refine in_pF (kf := 28) h13 (by decide) kx_2396 rfl (by decide) rfl rfl rfl dX16_init_2185 rfl (fun U14 h14 => ?_)
  refine ks_aload_n dX16_init_2188 rfl rfl ?_
  refine ks_bipush (x := nI 8) dX16_init_2189 (by decide) rfl ?_
  refine in_nN (n := 330) (n' := 331) (m' := 850) (N := 8) h14 (by decide) rfl (by decide) rfl rfl kx_100 dX16_init_2191 rfl (fun U15 h15 => ?_)
  refine in_pF (kf := 29) h15 (by decide) kx_2397 rfl (by decide) rfl rfl rfl dX16_init_2193 rfl (fun U16 h16 => ?_)
  refine ks_aload_n dX16_init_2196 rfl rfl ?_
  refine ks_bipush (x := nI 8) dX16_init_2197 (by decide) rfl ?_
  refine in_nN (n := 331) (n' := 332) (m' := 858) (N := 8) h16 (by decide) rfl (by decide) rfl rfl kx_100 dX16_init_2199 rfl (fun U17 h17 => ?_)
  refine in_pF (kf := 30) h17 (by decide) kx_2398 rfl (by decide) rfl rfl rfl dX16_init_2201 rfl (fun U18 h18 => ?_)
  refine ks_aload_n dX16_init_2204 rfl rfl ?_
  refine ks_bipush (x := nI 8) dX16_init_2205 (by decide) rfl ?_
  refine in_nN (n := 332) (n' := 333) (m' := 866) (N := 8) h18 (by decide) rfl (by decide) rfl rfl kx_100 dX16_init_2207 rfl (fun U19 h19 => ?_)
  refine in_pF (kf := 31) h19 (by decide) kx_2399 rfl (by decide) rfl rfl rfl dX16_init_2209 rfl (fun U20 h20 => ?_)
  refine ks_aload_n dX16_init_2212 rfl rfl ?_
  refine ks_bipush (x := nI 8) dX16_init_2213 (by decide) rfl ?_
  refine in_nN (n := 333) (n' := 334) (m' := 874) (N := 8) h20 (by decide) rfl (by decide) rfl rfl kx_100 dX16_init_2215 rfl (fun U21 h21 => ?_)
  refine in_pF (kf := 32) h21 (by decide) kx_2400 rfl (by decide) rfl rfl rfl dX16_init_2217 rfl (fun U22 h22 => ?_)
  refine ks_aload_n dX16_init_2220 rfl rfl ?_
  refine ks_bipush (x := nI 8) dX16_init_2221 (by decide) rfl ?_
  refine in_nN (n := 334) (n' := 335) (m' := 882) (N := 8) h22 (by decide) rfl (by decide) rfl rfl kx_100 dX16_init_2223 rfl (fun U23 h23 => ?_)
  refine in_pF (kf := 33) h23 (by decide) kx_2401 rfl (by decide) rfl rfl rfl dX16_init_2225 rfl (fun U24 h24 => ?_)
  refine ks_aload_n dX16_init_2228 rfl rfl ?_
  refine ks_bipush (x := nI 8) dX16_init_2229 (by decide) rfl ?_
  refine in_nN (n := 335) (n' := 336) (m' := 890) (N := 8) h24 (by decide) rfl (by decide) rfl rfl kx_100 dX16_init_2231 rfl (fun U25 h25 => ?_)
  refine in_pF (kf := 34) h25 (by decide) kx_2402 rfl (by decide) rfl rfl rfl dX16_init_2233 rfl (fun U26 h26 => ?_)
  exact hk _ h26
set_option maxRecDepth 100000 in
set_option maxHeartbeats 800000 in
theorem l_i4 {l : Launch} {G : ks_G} {d : Nat} {S0 S : ks_S} {F : Nat → Value} (h : icS S0 S 336 890 F) {P9 : Option Value → ks_S → Prop} (hk : ∀ S1, icS S0 S1 346 3848 (va_up (va_up (va_up (va_up (va_up (va_up (va_up (va_up (va_up (va_up (F) 35 (.ref 336)) 42 (.ref 337)) 43 (.ref 338)) 44 (.ref 339)) 45 (.ref 340)) 46 (.ref 341)) 49 (.ref 342)) 51 (.ref 343)) 53 (.ref 344)) 54 (.ref 345)) → ks_X l G mX16_init (d + 2) 2319 [(0, .ref 290)] [] S1 P9) : ks_X l G mX16_init (d + 2) 2236 [(0, .ref 290)] [] S P9 := by
  refine ks_aload_n dX16_init_2236 rfl rfl ?_
  refine ks_bipush (x := nI 32) dX16_init_2237 (by decide) rfl ?_
  refine in_nB (n := 336) (n' := 337) (m' := 922) (N := 32) h (by decide) rfl (by decide) rfl rfl kx_74 dX16_init_2239 rfl (fun U1 h1 => ?_)
  refine in_pF (kf := 35) h1 (by decide) kx_2403 rfl (by decide) rfl rfl rfl dX16_init_2241 rfl (fun U2 h2 => ?_)
  refine ks_aload_n dX16_init_2244 rfl rfl ?_
  refine ks_bipush (x := nI 8) dX16_init_2245 (by decide) rfl ?_
  refine in_nN (n := 337) (n' := 338) (m' := 930) (N := 8) h2 (by decide) rfl (by decide) rfl rfl kx_100 dX16_init_2247 rfl (fun U3 h3 => ?_)
  refine in_pF (kf := 42) h3 (by decide) kx_2410 rfl (by decide) rfl rfl rfl dX16_init_2249 rfl (fun U4 h4 => ?_)
  refine ks_aload_n dX16_init_2252 rfl rfl ?_
  refine ks_bipush (x := nI 8) dX16_init_2253 (by decide) rfl ?_
  refine in_nN (n := 338) (n' := 339) (m' := 938) (N := 8) h4 (by decide) rfl (by decide) rfl rfl kx_100 dX16_init_2255 rfl (fun U5 h5 => ?_)
  refine in_pF (kf := 43) h5 (by decide) kx_2411 rfl (by decide) rfl rfl rfl dX16_init_2257 rfl (fun U6 h6 => ?_)
  refine ks_aload_n dX16_init_2260 rfl rfl ?_
  refine ks_bipush (x := nI 8) dX16_init_2261 (by decide) rfl ?_
  refine in_nN (n := 339) (n' := 340) (m' := 946) (N := 8) h6 (by decide) rfl (by decide) rfl rfl kx_100 dX16_init_2263 rfl (fun U7 h7 => ?_)
  refine in_pF (kf := 44) h7 (by decide) kx_2412 rfl (by decide) rfl rfl rfl dX16_init_2265 rfl (fun U8 h8 => ?_)
  refine ks_aload_n dX16_init_2268 rfl rfl ?_
  refine ks_bipush (x := nI 8) dX16_init_2269 (by decide) rfl ?_
  refine in_nN (n := 340) (n' := 341) (m' := 954) (N := 8) h8 (by decide) rfl (by decide) rfl rfl kx_100 dX16_init_2271 rfl (fun U9 h9 => ?_)
  refine in_pF (kf := 45) h9 (by decide) kx_2413 rfl (by decide) rfl rfl rfl dX16_init_2273 rfl (fun U10 h10 => ?_)
  refine ks_aload_n dX16_init_2276 rfl rfl ?_
  refine ks_bipush (x := nI 61) dX16_init_2277 (by decide) rfl ?_
  refine in_nA (t := 7) (n := 341) (n' := 342) (m' := 1015) (N := 61) h10 (by decide) rfl (by decide) rfl rfl rfl kx_1805 (fun U h => h.2.2.2.2) dX16_init_2279 rfl (fun U11 h11 => ?_)
  refine in_pF (kf := 46) h11 (by decide) kx_2414 rfl (by decide) rfl rfl rfl dX16_init_2282 rfl (fun U12 h12 => ?_)
  refine ks_aload_n dX16_init_2285 rfl rfl ?_
  refine ks_sipush (x := nI 512) dX16_init_2286 (by decide) rfl ?_
  refine in_nN (n := 342) (n' := 343) (m' := 1527) (N := 512) h12 (by decide) rfl (by decide) rfl rfl kx_100 dX16_init_2289 rfl (fun U13 h13 => ?_)
  refine in_pF (kf := 49) h13 (by decide) kx_2417 rfl (by decide) rfl rfl rfl dX16_init_2291 rfl (fun U14 h14 => ?_)
  refine ks_aload_n dX16_init_2294 rfl rfl ?_
  refine ks_sipush (x := nI 2300) dX16_init_2295 (by decide) rfl ?_
  refine in_nN (n := 343) (n' := 344) (m' := 3827) (N := 2300) h14 (by decide) rfl (by decide) rfl rfl kx_100 dX16_init_2298 rfl (fun U15 h15 => ?_)
  refine in_pF (kf := 51) h15 (by decide) kx_2419 rfl (by decide) rfl rfl rfl dX16_init_2300 rfl (fun U16 h16 => ?_)
  refine ks_aload_n dX16_init_2303 rfl rfl ?_
  refine ks_bipush (x := nI 11) dX16_init_2304 (by decide) rfl ?_
  refine in_nL (n := 344) (n' := 345) (m' := 3838) (N := 11) h16 (by decide) rfl (by decide) rfl rfl kx_142 dX16_init_2306 rfl (fun U17 h17 => ?_)
  refine in_pF (kf := 53) h17 (by decide) kx_2421 rfl (by decide) rfl rfl rfl dX16_init_2308 rfl (fun U18 h18 => ?_)
  refine ks_aload_n dX16_init_2311 rfl rfl ?_
  refine ks_bipush (x := nI 10) dX16_init_2312 (by decide) rfl ?_
  refine in_nN (n := 345) (n' := 346) (m' := 3848) (N := 10) h18 (by decide) rfl (by decide) rfl rfl kx_100 dX16_init_2314 rfl (fun U19 h19 => ?_)
  refine in_pF (kf := 54) h19 (by decide) kx_2422 rfl (by decide) rfl rfl rfl dX16_init_2316 rfl (fun U20 h20 => ?_)
  exact hk _ h20
set_option maxRecDepth 100000 in
set_option maxHeartbeats 800000 in
theorem l_i5 {l : Launch} {G : ks_G} {d : Nat} {S0 S : ks_S} {F : Nat → Value} (h : icS S0 S 346 3848 F) {P9 : Option Value → ks_S → Prop} (hk : ∀ S1, icS S0 S1 361 4934 (va_up (va_up (va_up (va_up (va_up (va_up (va_up (va_up (F) 56 (.ref 346)) 57 (.ref 354)) 58 (.ref 355)) 59 (.ref 356)) 60 (.ref 357)) 61 (.ref 358)) 62 (.ref 359)) 64 (.ref 360)) → ks_X l G mX16_init (d + 2) 2387 [(0, .ref 290)] [] S1 P9) : ks_X l G mX16_init (d + 2) 2319 [(0, .ref 290)] [] S P9 := by
  refine ks_aload_n dX16_init_2319 rfl rfl ?_
  refine ks_newcx (ci := 16) (x := 346) (ty0 := tyX13) (fs := [.null, .int (nI 0), .null, .null, .null, .null, .null, .null, .null]) h.1 kx_1807 kx_1808 kx_32 in_X13 tyX13_ok cl_X13 (fun j hj => by rcases j with _ | _ | _ | _ | _ | _ | _ | _ | _ | j <;> first | rfl | (exfalso; omega)) rfl (by unfold ks_B; decide) dX16_init_2320 rfl (fun T1 q1 => ?_)
  refine ks_dup dX16_init_2323 rfl rfl ?_
  refine ks_callIN (n := 0) (M' := mX13_init) (c_pr_init (d := d) (P := 346) q1.2.2.1 q1.1 (by unfold ks_B; decide)) rfl rfl kx_1809 kx_1810 kx_32 kx_1811 (by decide +kernel) rfl (by decide) (Nat.le_of_ble_eq_true rfl) rfl dX16_init_2324 rfl (fun z1 U1 y1 => ?_)
  obtain ⟨rfl, y1⟩ := y1
  have h1 := in_nR (n := 346) (n' := 354) (m' := 4313) h (by decide) q1 y1 rfl rfl rfl rfl rfl rfl rfl rfl rfl rfl
  refine in_pF (kf := 56) h1 (by decide) kx_2424 rfl (by decide) rfl rfl rfl dX16_init_2327 rfl (fun U2 h2 => ?_)
  refine ks_aload_n dX16_init_2330 rfl rfl ?_
  refine ks_bipush (x := nI 32) dX16_init_2331 (by decide) rfl ?_
  refine in_nB (n := 354) (n' := 355) (m' := 4345) (N := 32) h2 (by decide) rfl (by decide) rfl rfl kx_74 dX16_init_2333 rfl (fun U3 h3 => ?_)
  refine in_pF (kf := 57) h3 (by decide) kx_2425 rfl (by decide) rfl rfl rfl dX16_init_2335 rfl (fun U4 h4 => ?_)
  refine ks_aload_n dX16_init_2338 rfl rfl ?_
  refine ks_sipush (x := nI 416) dX16_init_2339 (by decide) rfl ?_
  refine in_nB (n := 355) (n' := 356) (m' := 4761) (N := 416) h4 (by decide) rfl (by decide) rfl rfl kx_74 dX16_init_2342 rfl (fun U5 h5 => ?_)
  refine in_pF (kf := 58) h5 (by decide) kx_2426 rfl (by decide) rfl rfl rfl dX16_init_2344 rfl (fun U6 h6 => ?_)
  refine ks_aload_n dX16_init_2347 rfl rfl ?_
  refine ks_bipush (x := nI 64) dX16_init_2348 (by decide) rfl ?_
  refine in_nB (n := 356) (n' := 357) (m' := 4825) (N := 64) h6 (by decide) rfl (by decide) rfl rfl kx_74 dX16_init_2350 rfl (fun U7 h7 => ?_)
  refine in_pF (kf := 59) h7 (by decide) kx_2427 rfl (by decide) rfl rfl rfl dX16_init_2352 rfl (fun U8 h8 => ?_)
  refine ks_aload_n dX16_init_2355 rfl rfl ?_
  refine ks_bipush (x := nI 32) dX16_init_2356 (by decide) rfl ?_
  refine in_nB (n := 357) (n' := 358) (m' := 4857) (N := 32) h8 (by decide) rfl (by decide) rfl rfl kx_74 dX16_init_2358 rfl (fun U9 h9 => ?_)
  refine in_pF (kf := 60) h9 (by decide) kx_2428 rfl (by decide) rfl rfl rfl dX16_init_2360 rfl (fun U10 h10 => ?_)
  refine ks_aload_n dX16_init_2363 rfl rfl ?_
  refine ks_bipush (x := nI 8) dX16_init_2364 (by decide) rfl ?_
  refine in_nN (n := 358) (n' := 359) (m' := 4865) (N := 8) h10 (by decide) rfl (by decide) rfl rfl kx_100 dX16_init_2366 rfl (fun U11 h11 => ?_)
  refine in_pF (kf := 61) h11 (by decide) kx_2429 rfl (by decide) rfl rfl rfl dX16_init_2368 rfl (fun U12 h12 => ?_)
  refine ks_aload_n dX16_init_2371 rfl rfl ?_
  refine ks_bipush (x := nI 8) dX16_init_2372 (by decide) rfl ?_
  refine in_nN (n := 359) (n' := 360) (m' := 4873) (N := 8) h12 (by decide) rfl (by decide) rfl rfl kx_100 dX16_init_2374 rfl (fun U13 h13 => ?_)
  refine in_pF (kf := 62) h13 (by decide) kx_2430 rfl (by decide) rfl rfl rfl dX16_init_2376 rfl (fun U14 h14 => ?_)
  refine ks_aload_n dX16_init_2379 rfl rfl ?_
  refine ks_bipush (x := nI 61) dX16_init_2380 (by decide) rfl ?_
  refine in_nN (n := 360) (n' := 361) (m' := 4934) (N := 61) h14 (by decide) rfl (by decide) rfl rfl kx_100 dX16_init_2382 rfl (fun U15 h15 => ?_)
  refine in_pF (kf := 64) h15 (by decide) kx_2432 rfl (by decide) rfl rfl rfl dX16_init_2384 rfl (fun U16 h16 => ?_)
  exact hk _ h16
set_option maxRecDepth 100000 in
set_option maxHeartbeats 800000 in
theorem l_i6 {l : Launch} {G : ks_G} {d : Nat} {S0 S : ks_S} {F : Nat → Value} (h : icS S0 S 361 4934 F) {P9 : Option Value → ks_S → Prop} (hk : ∀ S1, icS S0 S1 369 12556 (va_up (va_up (va_up (va_up (va_up (va_up (va_up (va_up (F) 65 (.ref 361)) 66 (.ref 362)) 68 (.ref 363)) 69 (.ref 364)) 71 (.ref 365)) 72 (.ref 366)) 75 (.ref 367)) 83 (.ref 368)) → ks_X l G mX16_init (d + 2) 2461 [(0, .ref 290)] [] S1 P9) : ks_X l G mX16_init (d + 2) 2387 [(0, .ref 290)] [] S P9 := by
  refine ks_aload_n dX16_init_2387 rfl rfl ?_
  refine ks_sipush (x := nI 1002) dX16_init_2388 (by decide) rfl ?_
  refine in_nY (n := 361) (n' := 362) (m' := 5936) (N := 1002) h (by decide) rfl (by decide) rfl rfl kx_1848 dX16_init_2391 rfl (fun U1 h1 => ?_)
  refine in_pF (kf := 65) h1 (by decide) kx_2433 rfl (by decide) rfl rfl rfl dX16_init_2394 rfl (fun U2 h2 => ?_)
  refine ks_aload_n dX16_init_2397 rfl rfl ?_
  refine ks_sipush (x := nI 1002) dX16_init_2398 (by decide) rfl ?_
  refine in_nN (n := 362) (n' := 363) (m' := 6938) (N := 1002) h2 (by decide) rfl (by decide) rfl rfl kx_100 dX16_init_2401 rfl (fun U3 h3 => ?_)
  refine in_pF (kf := 66) h3 (by decide) kx_2434 rfl (by decide) rfl rfl rfl dX16_init_2403 rfl (fun U4 h4 => ?_)
  refine ks_aload_n dX16_init_2406 rfl rfl ?_
  refine ks_sipush (x := nI 1002) dX16_init_2407 (by decide) rfl ?_
  refine in_nY (n := 363) (n' := 364) (m' := 7940) (N := 1002) h4 (by decide) rfl (by decide) rfl rfl kx_1848 dX16_init_2410 rfl (fun U5 h5 => ?_)
  refine in_pF (kf := 68) h5 (by decide) kx_2436 rfl (by decide) rfl rfl rfl dX16_init_2413 rfl (fun U6 h6 => ?_)
  refine ks_aload_n dX16_init_2416 rfl rfl ?_
  refine ks_sipush (x := nI 1002) dX16_init_2417 (by decide) rfl ?_
  refine in_nN (n := 364) (n' := 365) (m' := 8942) (N := 1002) h6 (by decide) rfl (by decide) rfl rfl kx_100 dX16_init_2420 rfl (fun U7 h7 => ?_)
  refine in_pF (kf := 69) h7 (by decide) kx_2437 rfl (by decide) rfl rfl rfl dX16_init_2422 rfl (fun U8 h8 => ?_)
  refine ks_aload_n dX16_init_2425 rfl rfl ?_
  refine ks_sipush (x := nI 1002) dX16_init_2426 (by decide) rfl ?_
  refine in_nY (n := 365) (n' := 366) (m' := 9944) (N := 1002) h8 (by decide) rfl (by decide) rfl rfl kx_1848 dX16_init_2429 rfl (fun U9 h9 => ?_)
  refine in_pF (kf := 71) h9 (by decide) kx_2439 rfl (by decide) rfl rfl rfl dX16_init_2432 rfl (fun U10 h10 => ?_)
  refine ks_aload_n dX16_init_2435 rfl rfl ?_
  refine ks_sipush (x := nI 1002) dX16_init_2436 (by decide) rfl ?_
  refine in_nN (n := 366) (n' := 367) (m' := 10946) (N := 1002) h10 (by decide) rfl (by decide) rfl rfl kx_100 dX16_init_2439 rfl (fun U11 h11 => ?_)
  refine in_pF (kf := 72) h11 (by decide) kx_2440 rfl (by decide) rfl rfl rfl dX16_init_2441 rfl (fun U12 h12 => ?_)
  refine ks_aload_n dX16_init_2444 rfl rfl ?_
  refine ks_bipush (x := nI 9) dX16_init_2445 (by decide) rfl ?_
  refine in_nB (n := 367) (n' := 368) (m' := 10955) (N := 9) h12 (by decide) rfl (by decide) rfl rfl kx_74 dX16_init_2447 rfl (fun U13 h13 => ?_)
  refine in_pF (kf := 75) h13 (by decide) kx_2443 rfl (by decide) rfl rfl rfl dX16_init_2449 rfl (fun U14 h14 => ?_)
  refine ks_aload_n dX16_init_2452 rfl rfl ?_
  refine ks_sipush (x := nI 1601) dX16_init_2453 (by decide) rfl ?_
  refine in_nZ (n := 368) (n' := 369) (m' := 12556) (N := 1601) h14 (by decide) rfl (by decide) rfl rfl kx_704 dX16_init_2456 rfl (fun U15 h15 => ?_)
  refine in_pF (kf := 83) h15 (by decide) kx_2451 rfl (by decide) rfl rfl rfl dX16_init_2458 rfl (fun U16 h16 => ?_)
  exact hk _ h16
set_option maxRecDepth 100000 in
set_option maxHeartbeats 800000 in
theorem l_i7 {l : Launch} {G : ks_G} {d : Nat} {S0 S : ks_S} {F : Nat → Value} (h : icS S0 S 369 12556 F) {P9 : Option Value → ks_S → Prop} (hk : ∀ S1, icS S0 S1 374 32393 (va_up (va_up (va_up (va_up (va_up (F) 85 (.ref 369)) 86 (.ref 370)) 87 (.ref 371)) 88 (.ref 372)) 90 (.ref 373)) → ks_X l G mX16_init (d + 2) 2604 [(0, .ref 290)] [] S1 P9) : ks_X l G mX16_init (d + 2) 2461 [(0, .ref 290)] [] S P9 := by
  refine ks_aload_n dX16_init_2461 rfl rfl ?_
  refine ks_bipush (x := nI 21) dX16_init_2462 (by decide) rfl ?_
  refine ks_newNx (N := 21) (x := 369) h.1 kx_100 (by decide) (by unfold ks_B; decide) dX16_init_2464 rfl (fun T1 q1 => ?_)
  refine l_inN q1.2.2.1 (fun U1 u1 c1 => ?_)
  have h1 := h.one (show 291 ≤ 369 by decide) q1 u1 c1 rfl (show 12556 + 21 = 12577 from rfl)
  refine in_pF (kf := 85) h1 (by decide) kx_2453 rfl (by decide) rfl rfl rfl dX16_init_2566 rfl (fun U2 h2 => ?_)
  refine ks_aload_n dX16_init_2569 rfl rfl ?_
  refine ks_bipush (x := nI 32) dX16_init_2570 (by decide) rfl ?_
  refine in_nB (n := 370) (n' := 371) (m' := 12609) (N := 32) h2 (by decide) rfl (by decide) rfl rfl kx_74 dX16_init_2572 rfl (fun U3 h3 => ?_)
  refine in_pF (kf := 86) h3 (by decide) kx_2454 rfl (by decide) rfl rfl rfl dX16_init_2574 rfl (fun U4 h4 => ?_)
  refine ks_aload_n dX16_init_2577 rfl rfl ?_
  refine ks_sipush (x := nI 1700) dX16_init_2578 (by decide) rfl ?_
  refine in_nB (n := 371) (n' := 372) (m' := 14309) (N := 1700) h4 (by decide) rfl (by decide) rfl rfl kx_74 dX16_init_2581 rfl (fun U5 h5 => ?_)
  refine in_pf (kf := 87) h5 (by decide) kx_2455 rfl (by decide) rfl rfl rfl dX16_init_2583 rfl (fun U6 h6 => ?_)
  refine ks_aload_n dX16_init_2586 rfl rfl ?_
  refine ks_sipush (x := nI 1700) dX16_init_2587 (by decide) rfl ?_
  refine in_nB (n := 372) (n' := 373) (m' := 16009) (N := 1700) h6 (by decide) rfl (by decide) rfl rfl kx_74 dX16_init_2590 rfl (fun U7 h7 => ?_)
  refine in_pf (kf := 88) h7 (by decide) kx_2456 rfl (by decide) rfl rfl rfl dX16_init_2592 rfl (fun U8 h8 => ?_)
  refine ks_aload_n dX16_init_2595 rfl rfl ?_
  refine ks_sipush (x := nI 16384) dX16_init_2596 (by decide) rfl ?_
  refine in_nB (n := 373) (n' := 374) (m' := 32393) (N := 16384) h8 (by decide) rfl (by decide) rfl rfl kx_74 dX16_init_2599 rfl (fun U9 h9 => ?_)
  refine in_pF (kf := 90) h9 (by decide) kx_2458 rfl (by decide) rfl rfl rfl dX16_init_2601 rfl (fun U10 h10 => ?_)
  exact hk _ h10
set_option maxRecDepth 100000 in
set_option maxHeartbeats 800000 in
theorem l_i8 {l : Launch} {G : ks_G} {d : Nat} {S0 S : ks_S} {F : Nat → Value} (h : icS S0 S 374 32393 F) {P9 : Option Value → ks_S → Prop} (hk : ∀ S1, icS S0 S1 529 121865 (va_up (va_up (va_up (va_up (va_up (va_up (va_up (va_up (va_up (va_up (va_up (F) 95 (.ref 374)) 96 (.ref 375)) 97 (.ref 376)) 98 (.ref 377)) 99 (.ref 378)) 100 (.ref 379)) 101 (.ref 380)) 102 (.ref 453)) 103 (.ref 454)) 104 (.ref 455)) 105 (.ref 528)) → ks_X l G mX16_init (d + 2) 2703 [(0, .ref 290)] [] S1 P9) : ks_X l G mX16_init (d + 2) 2604 [(0, .ref 290)] [] S P9 := by
  refine ks_aload_n dX16_init_2604 rfl rfl ?_
  refine ks_bipush (x := nI 12) dX16_init_2605 (by decide) rfl ?_
  refine in_nL (n := 374) (n' := 375) (m' := 32405) (N := 12) h (by decide) rfl (by decide) rfl rfl kx_142 dX16_init_2607 rfl (fun U1 h1 => ?_)
  refine in_pF (kf := 95) h1 (by decide) kx_2463 rfl (by decide) rfl rfl rfl dX16_init_2609 rfl (fun U2 h2 => ?_)
  refine ks_aload_n dX16_init_2612 rfl rfl ?_
  refine ks_bipush (x := nI 12) dX16_init_2613 (by decide) rfl ?_
  refine in_nL (n := 375) (n' := 376) (m' := 32417) (N := 12) h2 (by decide) rfl (by decide) rfl rfl kx_142 dX16_init_2615 rfl (fun U3 h3 => ?_)
  refine in_pF (kf := 96) h3 (by decide) kx_2464 rfl (by decide) rfl rfl rfl dX16_init_2617 rfl (fun U4 h4 => ?_)
  refine ks_aload_n dX16_init_2620 rfl rfl ?_
  refine ks_bipush (x := nI 12) dX16_init_2621 (by decide) rfl ?_
  refine in_nN (n := 376) (n' := 377) (m' := 32429) (N := 12) h4 (by decide) rfl (by decide) rfl rfl kx_100 dX16_init_2623 rfl (fun U5 h5 => ?_)
  refine in_pF (kf := 97) h5 (by decide) kx_2465 rfl (by decide) rfl rfl rfl dX16_init_2625 rfl (fun U6 h6 => ?_)
  refine ks_aload_n dX16_init_2628 rfl rfl ?_
  refine ks_bipush (x := nI 12) dX16_init_2629 (by decide) rfl ?_
  refine in_nN (n := 377) (n' := 378) (m' := 32441) (N := 12) h6 (by decide) rfl (by decide) rfl rfl kx_100 dX16_init_2631 rfl (fun U7 h7 => ?_)
  refine in_pF (kf := 98) h7 (by decide) kx_2466 rfl (by decide) rfl rfl rfl dX16_init_2633 rfl (fun U8 h8 => ?_)
  refine ks_aload_n dX16_init_2636 rfl rfl ?_
  refine ks_sipush (x := nI 2592) dX16_init_2637 (by decide) rfl ?_
  refine in_nB (n := 378) (n' := 379) (m' := 35033) (N := 2592) h8 (by decide) rfl (by decide) rfl rfl kx_74 dX16_init_2640 rfl (fun U9 h9 => ?_)
  refine in_pF (kf := 99) h9 (by decide) kx_2467 rfl (by decide) rfl rfl rfl dX16_init_2642 rfl (fun U10 h10 => ?_)
  refine ks_aload_n dX16_init_2645 rfl rfl ?_
  refine ks_bipush (x := nI 72) dX16_init_2646 (by decide) rfl ?_
  refine in_nL (n := 379) (n' := 380) (m' := 35105) (N := 72) h10 (by decide) rfl (by decide) rfl rfl kx_142 dX16_init_2648 rfl (fun U11 h11 => ?_)
  refine in_pF (kf := 100) h11 (by decide) kx_2468 rfl (by decide) rfl rfl rfl dX16_init_2650 rfl (fun U12 h12 => ?_)
  refine ks_aload_n dX16_init_2653 rfl rfl ?_
  refine ks_bipush (x := nI 72) dX16_init_2654 (by decide) rfl ?_
  refine ks_sipush (x := nI 600) dX16_init_2656 (by decide) rfl ?_
  refine in_nM (n := 380) (n' := 453) (m' := 78377) h12 (by decide) rfl rfl rfl kx_74 kx_1849 dX16_init_2659 rfl (fun U13 h13 => ?_)
  refine in_pF (kf := 101) h13 (by decide) kx_2469 rfl (by decide) rfl rfl rfl dX16_init_2663 rfl (fun U14 h14 => ?_)
  refine ks_aload_n dX16_init_2666 rfl rfl ?_
  refine ks_bipush (x := nI 72) dX16_init_2667 (by decide) rfl ?_
  refine in_nN (n := 453) (n' := 454) (m' := 78449) (N := 72) h14 (by decide) rfl (by decide) rfl rfl kx_100 dX16_init_2669 rfl (fun U15 h15 => ?_)
  refine in_pF (kf := 102) h15 (by decide) kx_2470 rfl (by decide) rfl rfl rfl dX16_init_2671 rfl (fun U16 h16 => ?_)
  refine ks_aload_n dX16_init_2674 rfl rfl ?_
  refine ks_bipush (x := nI 72) dX16_init_2675 (by decide) rfl ?_
  refine in_nL (n := 454) (n' := 455) (m' := 78521) (N := 72) h16 (by decide) rfl (by decide) rfl rfl kx_142 dX16_init_2677 rfl (fun U17 h17 => ?_)
  refine in_pF (kf := 103) h17 (by decide) kx_2471 rfl (by decide) rfl rfl rfl dX16_init_2679 rfl (fun U18 h18 => ?_)
  refine ks_aload_n dX16_init_2682 rfl rfl ?_
  refine ks_bipush (x := nI 72) dX16_init_2683 (by decide) rfl ?_
  refine ks_sipush (x := nI 600) dX16_init_2685 (by decide) rfl ?_
  refine in_nM (n := 455) (n' := 528) (m' := 121793) h18 (by decide) rfl rfl rfl kx_74 kx_1849 dX16_init_2688 rfl (fun U19 h19 => ?_)
  refine in_pF (kf := 104) h19 (by decide) kx_2472 rfl (by decide) rfl rfl rfl dX16_init_2692 rfl (fun U20 h20 => ?_)
  refine ks_aload_n dX16_init_2695 rfl rfl ?_
  refine ks_bipush (x := nI 72) dX16_init_2696 (by decide) rfl ?_
  refine in_nN (n := 528) (n' := 529) (m' := 121865) (N := 72) h20 (by decide) rfl (by decide) rfl rfl kx_100 dX16_init_2698 rfl (fun U21 h21 => ?_)
  refine in_pF (kf := 105) h21 (by decide) kx_2473 rfl (by decide) rfl rfl rfl dX16_init_2700 rfl (fun U22 h22 => ?_)
  exact hk _ h22
set_option maxRecDepth 100000 in
set_option maxHeartbeats 800000 in
theorem l_i9 {l : Launch} {G : ks_G} {d : Nat} {S0 S : ks_S} {F : Nat → Value} (h : icS S0 S 529 121865 F) {P9 : Option Value → ks_S → Prop} (hk : ∀ S1, icS S0 S1 545 255635 (va_up (va_up (va_up (va_up (va_up (va_up (va_up (va_up (va_up (F) 106 (.ref 529)) 108 (.ref 530)) 109 (.ref 531)) 112 (.ref 532)) 113 (.ref 533)) 114 (.ref 534)) 115 (.ref 542)) 117 (.ref 543)) 118 (.ref 544)) → ks_X l G mX16_init (d + 2) 2781 [(0, .ref 290)] [] S1 P9) : ks_X l G mX16_init (d + 2) 2703 [(0, .ref 290)] [] S P9 := by
  refine ks_aload_n dX16_init_2703 rfl rfl ?_
  refine ks_ldcw dX16_init_2704 kx_1850 rfl ?_
  refine ks_ti (y := nI 131072) (by decide) ?_
  refine in_nB (n := 529) (n' := 530) (m' := 252937) (N := 131072) h (by decide) rfl (by decide) rfl rfl kx_74 dX16_init_2707 rfl (fun U1 h1 => ?_)
  refine in_pf (kf := 106) h1 (by decide) kx_2474 rfl (by decide) rfl rfl rfl dX16_init_2709 rfl (fun U2 h2 => ?_)
  refine ks_aload_n dX16_init_2712 rfl rfl ?_
  refine ks_sipush (x := nI 384) dX16_init_2713 (by decide) rfl ?_
  refine in_nB (n := 530) (n' := 531) (m' := 253321) (N := 384) h2 (by decide) rfl (by decide) rfl rfl kx_74 dX16_init_2716 rfl (fun U3 h3 => ?_)
  refine in_pF (kf := 108) h3 (by decide) kx_2476 rfl (by decide) rfl rfl rfl dX16_init_2718 rfl (fun U4 h4 => ?_)
  refine ks_aload_n dX16_init_2721 rfl rfl ?_
  refine ks_sipush (x := nI 1600) dX16_init_2722 (by decide) rfl ?_
  refine in_nB (n := 531) (n' := 532) (m' := 254921) (N := 1600) h4 (by decide) rfl (by decide) rfl rfl kx_74 dX16_init_2725 rfl (fun U5 h5 => ?_)
  refine in_pF (kf := 109) h5 (by decide) kx_2477 rfl (by decide) rfl rfl rfl dX16_init_2727 rfl (fun U6 h6 => ?_)
  refine ks_aload_n dX16_init_2730 rfl rfl ?_
  refine ks_bipush (x := nI 8) dX16_init_2731 (by decide) rfl ?_
  refine in_nN (n := 532) (n' := 533) (m' := 254929) (N := 8) h6 (by decide) rfl (by decide) rfl rfl kx_100 dX16_init_2733 rfl (fun U7 h7 => ?_)
  refine in_pF (kf := 112) h7 (by decide) kx_2480 rfl (by decide) rfl rfl rfl dX16_init_2735 rfl (fun U8 h8 => ?_)
  refine ks_aload_n dX16_init_2738 rfl rfl ?_
  refine ks_bipush (x := nI 65) dX16_init_2739 (by decide) rfl ?_
  refine in_nB (n := 533) (n' := 534) (m' := 254994) (N := 65) h8 (by decide) rfl (by decide) rfl rfl kx_74 dX16_init_2741 rfl (fun U9 h9 => ?_)
  refine in_pF (kf := 113) h9 (by decide) kx_2481 rfl (by decide) rfl rfl rfl dX16_init_2743 rfl (fun U10 h10 => ?_)
  refine ks_aload_n dX16_init_2746 rfl rfl ?_
  refine ks_newcx (ci := 16) (x := 534) (ty0 := tyX13) (fs := [.null, .int (nI 0), .null, .null, .null, .null, .null, .null, .null]) h10.1 kx_1807 kx_1808 kx_32 in_X13 tyX13_ok cl_X13 (fun j hj => by rcases j with _ | _ | _ | _ | _ | _ | _ | _ | _ | j <;> first | rfl | (exfalso; omega)) rfl (by unfold ks_B; decide) dX16_init_2747 rfl (fun T11 q11 => ?_)
  refine ks_dup dX16_init_2750 rfl rfl ?_
  refine ks_callIN (n := 0) (M' := mX13_init) (c_pr_init (d := d) (P := 534) q11.2.2.1 q11.1 (by unfold ks_B; decide)) rfl rfl kx_1809 kx_1810 kx_32 kx_1811 (by decide +kernel) rfl (by decide) (Nat.le_of_ble_eq_true rfl) rfl dX16_init_2751 rfl (fun z11 U11 y11 => ?_)
  obtain ⟨rfl, y11⟩ := y11
  have h11 := in_nR (n := 534) (n' := 542) (m' := 255459) h10 (by decide) q11 y11 rfl rfl rfl rfl rfl rfl rfl rfl rfl rfl
  refine in_pF (kf := 114) h11 (by decide) kx_2482 rfl (by decide) rfl rfl rfl dX16_init_2754 rfl (fun U12 h12 => ?_)
  refine ks_aload_n dX16_init_2757 rfl rfl ?_
  refine ks_bipush (x := nI 80) dX16_init_2758 (by decide) rfl ?_
  refine in_nB (n := 542) (n' := 543) (m' := 255539) (N := 80) h12 (by decide) rfl (by decide) rfl rfl kx_74 dX16_init_2760 rfl (fun U13 h13 => ?_)
  refine in_pF (kf := 115) h13 (by decide) kx_2483 rfl (by decide) rfl rfl rfl dX16_init_2762 rfl (fun U14 h14 => ?_)
  refine ks_aload_n dX16_init_2765 rfl rfl ?_
  refine ks_bipush (x := nI 32) dX16_init_2766 (by decide) rfl ?_
  refine in_nB (n := 543) (n' := 544) (m' := 255571) (N := 32) h14 (by decide) rfl (by decide) rfl rfl kx_74 dX16_init_2768 rfl (fun U15 h15 => ?_)
  refine in_pF (kf := 117) h15 (by decide) kx_2485 rfl (by decide) rfl rfl rfl dX16_init_2770 rfl (fun U16 h16 => ?_)
  refine ks_aload_n dX16_init_2773 rfl rfl ?_
  refine ks_bipush (x := nI 64) dX16_init_2774 (by decide) rfl ?_
  refine in_nB (n := 544) (n' := 545) (m' := 255635) (N := 64) h16 (by decide) rfl (by decide) rfl rfl kx_74 dX16_init_2776 rfl (fun U17 h17 => ?_)
  refine in_pF (kf := 118) h17 (by decide) kx_2486 rfl (by decide) rfl rfl rfl dX16_init_2778 rfl (fun U18 h18 => ?_)
  exact hk _ h18

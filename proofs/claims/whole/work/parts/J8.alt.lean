/-! THE REFERENCE: moves between the stacks -/
/-- an operation of the machine: r is what it should leave -/
def opR (S S' : ks_S) (V : Nat → Value) (F : Nat) (r : Option (List (List Nat) × List (List Nat))) (vs : Vs) : Prop := ∃ V' F' xs' ys', msK S S' V V' F F' ∧ rsQ S' V' F' xs' ys' vs ∧ ((V' 74 = .int (ks_bo false) ∧ r = some (xs', ys')) ∨ (V' 74 = .int (ks_bo true) ∧ ∀ q, r = some q → 1000 < q.1.length + q.2.length))
theorem rsK.pop {S : ks_S} {V : Nat → Value} {T : Nat → Nat → Option Nat} {sz oz vz : Nat → Nat} {xs ys : List (List Nat)} {vs : Vs} {k : Nat} (hO : S.2.2 290 = some (rfE V)) (h : rsK S V T sz oz vz xs ys vs) : rsK (ks_set S 290 (rfE (va_up V 67 (.int (nI (xs.length - k)))))) (va_up V 67 (.int (nI (xs.length - k)))) T sz oz vz (xs.drop k) ys vs := by
  have h1 : rsK S (va_up V 67 (.int (nI (xs.length - k)))) T sz oz vz (xs.drop k) ys vs := by
    obtain ⟨h1, h2, ⟨v1, v2, v3⟩, ⟨b1, b2, b3⟩, h6, h7, h8⟩ := h
    exact ⟨h1, h2, ⟨by rw [va_up_self, List.length_drop], (va_up_ne _ _ (by decide)).trans v2, (va_up_ne _ _ (by decide)).trans v3⟩, ⟨by rw [List.length_drop]; omega, b2, b3⟩, h6.drop k, h7, h8⟩
  exact h1.obj hO ⟨rfl, rfl, rfl⟩
theorem rsQ.pop {S : ks_S} {V : Nat → Value} {F : Nat} {xs ys : List (List Nat)} {vs : Vs} {k : Nat} (hO : S.2.2 290 = some (rfE V)) (h : rsQ S V F xs ys vs) : rsQ (ks_set S 290 (rfE (va_up V 67 (.int (nI (xs.length - k)))))) (va_up V 67 (.int (nI (xs.length - k)))) F (xs.drop k) ys vs ∧ msK S (ks_set S 290 (rfE (va_up V 67 (.int (nI (xs.length - k)))))) V (va_up V 67 (.int (nI (xs.length - k)))) F F := by
  obtain ⟨T, sz, oz, vz, hK, hF, gS, kS, h367⟩ := h
  exact ⟨⟨T, sz, oz, vz, hK.pop hO, hF, gS, kS, (ks_set_ne _ _ (by decide)).trans h367⟩, sfK.of (ks_up_set _ _ (by decide)), ks_set_same _ _ _, fun k h1 _ _ => va_up_ne _ _ h1⟩
/-- two rows change places -/
theorem tbS.swap {S S1 : ks_S} {T : Nat → Nat → Option Nat} {a i b j r q : Nat} {L : List Nat} (h : tbS S T) (hab : a ≠ b) (ha : a < 3) (hb : b < 3) (h1 : T a i = some r) (h2 : T b j = some q) (hu : ks_up S S1 L) (hL : ∀ x ∈ L, x = 361 ∨ x = 362 ∨ x = 363 ∨ x = 364 ∨ x = 290) (hL2 : ∀ x ∈ L, ∃ e, S.2.2 x = some e ∧ ∀ g, e ≠ kB 520 g) (ea : S1.2.2 (361 + 2 * a) = some (kA 4 1002 (va_up (T a) i (some q)))) (eb : S1.2.2 (361 + 2 * b) = some (kA 4 1002 (va_up (T b) j (some r)))) (ec : ∀ c, c < 3 → c ≠ a → c ≠ b → 361 + 2 * c ∉ L) : tbS S1 (upT (upT T a i (some q)) b j (some r)) ∧ frT (upT (upT T a i (some q)) b j (some r)) = frT T := by
  have hT' : ∀ c x, upT (upT T a i (some q)) b j (some r) c x = if c = b ∧ x = j then some r else if c = a ∧ x = i then some q else T c x := fun c x => by
    by_cases e1 : c = b ∧ x = j
    · rw [if_pos e1, e1.1, e1.2, upT_self]
    · rw [if_neg e1, upT_ne (by omega)]
      by_cases e2 : c = a ∧ x = i
      · rw [if_pos e2, e2.1, e2.2, upT_self]
      · rw [if_neg e2, upT_ne (by omega)]
  have hfr : frT (upT (upT T a i (some q)) b j (some r)) = frT T := frT_c (fun c x => by
    rw [hT']
    by_cases e1 : c = b ∧ x = j
    · rw [if_pos e1, e1.1, e1.2, h2]; exact ⟨fun h => (by cases h), fun h => by cases h⟩
    · rw [if_neg e1]
      by_cases e2 : c = a ∧ x = i
      · rw [if_pos e2, e2.1, e2.2, h1]; exact ⟨fun h => (by cases h), fun h => by cases h⟩
      · rw [if_neg e2])
  obtain ⟨b1, b2, b3, b4, b5⟩ := h
  have k520 : ∀ x g, S.2.2 x = some (kB 520 g) → S1.2.2 x = some (kB 520 g) := fun x g hx => hu.at hx (fun hm => by obtain ⟨e, e1, e2⟩ := hL2 x hm; rw [hx] at e1; exact e2 g (Option.some.inj e1).symm)
  have org : ∀ c x v, upT (upT T a i (some q)) b j (some r) c x = some v → ∃ c' x', T c' x' = some v ∧ (c = b ∧ x = j → c' = a ∧ x' = i) ∧ (¬ (c = b ∧ x = j) → c = a ∧ x = i → c' = b ∧ x' = j) ∧ (¬ (c = b ∧ x = j) → ¬ (c = a ∧ x = i) → c' = c ∧ x' = x) := fun c x v hv => by
    rw [hT'] at hv
    by_cases e1 : c = b ∧ x = j
    · rw [if_pos e1] at hv; cases hv; exact ⟨a, i, h1, fun _ => ⟨rfl, rfl⟩, fun h => absurd e1 h, fun h => absurd e1 h⟩
    · rw [if_neg e1] at hv
      by_cases e2 : c = a ∧ x = i
      · rw [if_pos e2] at hv; cases hv; exact ⟨b, j, h2, fun h => absurd h e1, fun _ _ => ⟨rfl, rfl⟩, fun _ h => absurd e2 h⟩
      · rw [if_neg e2] at hv; exact ⟨c, x, hv, fun h => absurd h e1, fun _ h => absurd h e2, fun _ _ => ⟨rfl, rfl⟩⟩
  refine ⟨⟨fun c hc => ?_, fun c x c2 x2 v g1 g2 => ?_, fun c x v g1 => ?_, b4.up hu (fun x hx => ?_), by rw [hu.1, hfr]; exact b5⟩, hfr⟩
  · by_cases e1 : c = b
    · subst e1; rw [upT_row, upT_row_ne _ _ _ (fun h => hab h.symm)]; exact eb
    · rw [upT_row_ne _ _ _ e1]
      by_cases e2 : c = a
      · subst e2; rw [upT_row]; exact ea
      · rw [upT_row_ne _ _ _ e2]; exact hu.at (b1 c hc) (ec c hc e2 e1)
  · obtain ⟨c', x', k1, k2, k3, k4⟩ := org c x v g1
    obtain ⟨c2', x2', l1, l2, l3, l4⟩ := org c2 x2 v g2
    have h9 := b2 _ _ _ _ _ k1 l1
    by_cases e1 : c = b ∧ x = j
    · have := k2 e1
      by_cases e2 : c2 = b ∧ x2 = j
      · omega
      · by_cases e3 : c2 = a ∧ x2 = i
        · have := l3 e2 e3; omega
        · have := l4 e2 e3; omega
    · by_cases e4 : c = a ∧ x = i
      · have := k3 e1 e4
        by_cases e2 : c2 = b ∧ x2 = j
        · have := l2 e2; omega
        · by_cases e3 : c2 = a ∧ x2 = i
          · omega
          · have := l4 e2 e3; omega
      · have := k4 e1 e4
        by_cases e2 : c2 = b ∧ x2 = j
        · have := l2 e2; omega
        · by_cases e3 : c2 = a ∧ x2 = i
          · have := l3 e2 e3; omega
          · have := l4 e2 e3; omega
  · obtain ⟨c', x', k1, k2, k3, k4⟩ := org c x v g1
    obtain ⟨c1, g9, c2, c3⟩ := b3 _ _ _ k1
    have bi := (b3 _ _ _ h1).1
    have bj := (b3 _ _ _ h2).1
    refine ⟨?_, g9, c2, k520 _ _ c3⟩
    by_cases e1 : c = b ∧ x = j
    · omega
    · by_cases e4 : c = a ∧ x = i
      · omega
      · have := k4 e1 e4; omega
  · obtain ⟨e, e1, -⟩ := hL2 x hx
    exact b4.lt e1
set_option maxRecDepth 100000 in
set_option maxHeartbeats 1600000 in
theorem l_mv107 {l : Launch} {G : ks_G} {d : Nat} {S : ks_S} {V : Nat → Value} {F : Nat} {xs ys : List (List Nat)} {vs : Vs} (hO : S.2.2 290 = some (rfE V)) (hK : rsQ S V F xs ys vs) {P : Option Value → ks_S → Prop} {op : Nat} (hn : 0 < xs.length) (hl : xs.length + ys.length ≤ 1000) (v74 : V 74 = .int (ks_bo false)) (hk : ∀ S' V' F', msK S S' V V' F F' → V' 74 = .int (ks_bo false) → rsQ S' V' F' (xs.drop 1) ((xs.getD 0 [] :: ys)) vs → P none S') : ks_X l G mX16_move (d + 1) 151 [(0, .ref 290), (1, .int (nI op))] [] S P := by
  obtain ⟨T, sz, oz, vz, hK', rfl, gS, kS, h367⟩ := hK
  have hK := hK'
  obtain ⟨hT, ⟨h362, h364, h366⟩, ⟨v67, v70, v73⟩, ⟨bx, by9, bv⟩, hx, hys, hvs, hU⟩ := id hK
  refine ks_aload_n dX16_move_151 rfl rfl ?_
  refine ks_getf (T := TX16) (kf := 68) kx_2436 rfl in_X16 cl_X16 (by decide) hO rfl dX16_move_152 rfl ?_
  refine ks_aload_n dX16_move_155 rfl rfl ?_
  refine ks_getf (T := TX16) (kf := 70) kx_2438 rfl in_X16 cl_X16 (by decide) hO rfl dX16_move_156 rfl ?_
  refine ks_tv v70 ?_
  refine ks_callS (n := 2) (M' := mX16_row) (c_md_row (d := d) (a := 1) (i := ys.length) hT (by decide) (by omega)) kx_2181 kx_2182 kx_30 kx_2183 (by decide +kernel) rfl (by decide) (Nat.le_of_ble_eq_true rfl) rfl dX16_move_159 rfl (fun z1 S1 y1 => ?_)
  obtain ⟨T1, r, rfl, hT1, hr, hTT, hsame, hnew, sf, k520⟩ := y1
  obtain ⟨q, g, a1, a2, a3, a4, a5⟩ := hx (xs.length - 1) (by omega)
  rw [show xs.length - 1 - (xs.length - 1) = 0 by omega] at a5
  have qT : T1 0 (xs.length - 1) = some q := (hTT 0 (xs.length - 1) (Or.inl (by decide))).trans a1
  have q1 := k520 q g a2
  obtain ⟨-, g0, kg0, er⟩ := hT1.2.2.1 _ _ _ hr
  have o1 : S1.2.2 290 = some (rfE V) := sf.2 290 _ hO (by decide) (fun g h => by cases h)
  have hF1 : S1.2.2 362 = some (kN 1002 sz) := sf.2 362 _ h362 (by decide) (fun g h => by cases h)
  have hT9 : S1.2.2 364 = some (kN 1002 oz) := sf.2 364 _ h364 (by decide) (fun g h => by cases h)
  have h366' : S1.2.2 366 = some (kN 1002 vz) := sf.2 366 _ h366 (by decide) (fun g h => by cases h)
  have h367' : S1.2.2 367 = some (kB 9 gS) := sf.2 367 _ h367 (by decide) (fun g h => absurd (kB_lq h) (by decide))
  have tF : S1.2.2 361 = some (kA 4 1002 (T1 0)) := hT1.1 0 (by decide)
  have tT : S1.2.2 363 = some (kA 4 1002 (T1 1)) := hT1.1 1 (by decide)
  have key : ∀ S9 : ks_S, ks_up S1 S9 [290, 363, 364, 361] → S9.2.2 290 = some (rfE (va_up (va_up V 70 (.int (nI (ys.length + 1)))) 67 (.int (nI (xs.length - 1))))) → S9.2.2 363 = some (kA 4 1002 (va_up (T1 1) ys.length (some q))) → S9.2.2 364 = some (kN 1002 (va_up oz ys.length (sz (xs.length - 1)))) → S9.2.2 361 = some (kA 4 1002 (va_up (T1 0) (xs.length - 1) (some r))) → P none S9 := by
    intro S9 u9 o9 e1 e2 e3
    have hL2 : ∀ x ∈ ([290, 363, 364, 361] : List Nat), ∃ e, S1.2.2 x = some e ∧ ∀ g, e ≠ kB 520 g := fun x hx => by
      simp only [List.mem_cons, List.not_mem_nil, or_false] at hx
      rcases hx with rfl | rfl | rfl | rfl
      · exact ⟨_, o1, fun g h => by cases h⟩
      · exact ⟨_, tT, fun g h => by cases h⟩
      · exact ⟨_, hT9, fun g h => by cases h⟩
      · exact ⟨_, tF, fun g h => by cases h⟩
    obtain ⟨hT2, hfr⟩ := hT1.swap (a := 1) (b := 0) (by decide) (by decide) (by decide) hr qT u9 (by decide) hL2 e1 e3 (by decide)
    have kk : ∀ x g, S.2.2 x = some (kB 520 g) → S9.2.2 x = some (kB 520 g) := fun x g h => u9.at (k520 x g h) (fun hm => by obtain ⟨e, c1, c2⟩ := hL2 x hm; rw [k520 x g h] at c1; exact c2 g (Option.some.inj c1).symm)
    have fsf : sfK LSk S S9 (frT T) (frT (upT (upT T1 1 ys.length (some q)) 0 (xs.length - 1) (some r))) := by
      rw [hfr]
      exact (sf.mono (by decide)).trans (sfK.of (u9.mono (by decide)))
    have tto : ∀ i, i < ys.length → (upT (upT T1 1 ys.length (some q)) 0 (xs.length - 1) (some r)) 1 i = T 1 i := fun i hi => by rw [upT_ne (Or.inl (by decide)), upT_ne (Or.inr (by omega)), hTT 1 i (Or.inr (by omega))]
    have tfr : ∀ i, i < xs.length - 1 → (upT (upT T1 1 ys.length (some q)) 0 (xs.length - 1) (some r)) 0 i = T 0 i := fun i hi => by rw [upT_ne (Or.inr (by omega)), upT_ne (Or.inl (by decide)), hTT 0 i (Or.inl (by decide))]
    have t2 : ∀ i, (upT (upT T1 1 ys.length (some q)) 0 (xs.length - 1) (some r)) 2 i = T 2 i := fun i => by rw [upT_ne (Or.inl (by decide)), upT_ne (Or.inl (by decide)), hTT 2 i (Or.inl (by decide))]
    have tq : (upT (upT T1 1 ys.length (some q)) 0 (xs.length - 1) (some r)) 1 ys.length = some q := by rw [upT_ne (Or.inl (by decide)), upT_self]
    have EF : elR S9 ((upT (upT T1 1 ys.length (some q)) 0 (xs.length - 1) (some r)) 0) sz (xs.drop 1) := (hx.drop 1).keep (fun i hi => by rw [List.length_drop] at hi; exact ⟨tfr i hi, rfl⟩) (fun i x g9 hi h9 h => kk x g9 h)
    have ET : elR S9 ((upT (upT T1 1 ys.length (some q)) 0 (xs.length - 1) (some r)) 1) (va_up oz ys.length (sz (xs.length - 1))) (xs.getD 0 [] :: ys) := elR.cons (hys.keep (fun i hi => ⟨tto i hi, va_up_ne _ _ (by omega)⟩) (fun i x g9 hi h9 h => kk x g9 h)) tq (kk q g a2) a3 (by rw [va_up_self]; exact a4) (by rw [va_up_self]; exact a5)
    have EV : elR S9 ((upT (upT T1 1 ys.length (some q)) 0 (xs.length - 1) (some r)) 2) vz vs.2 := hvs.keep (fun i hi => ⟨t2 i, rfl⟩) (fun i x g9 hi h9 h => kk x g9 h)
    refine hk S9 (va_up (va_up V 70 (.int (nI (ys.length + 1)))) 67 (.int (nI (xs.length - 1)))) (frT (upT (upT T1 1 ys.length (some q)) 0 (xs.length - 1) (some r))) ⟨fsf, o9, fun k h1 h2 _ => (va_up_ne _ _ h1).trans (va_up_ne _ _ h2)⟩ ((va_up_ne _ _ (by decide)).trans ((va_up_ne _ _ (by decide)).trans v74)) ⟨(upT (upT T1 1 ys.length (some q)) 0 (xs.length - 1) (some r)), sz, (va_up oz ys.length (sz (xs.length - 1))), vz, ⟨hT2, ⟨u9.at hF1 (by decide), e2, u9.at h366' (by decide)⟩, ⟨by rw [va_up_self, List.length_drop], (va_up_ne _ _ (by decide)).trans (va_up_self _ _ _), (va_up_ne _ _ (by decide)).trans ((va_up_ne _ _ (by decide)).trans v73)⟩, ⟨by rw [List.length_drop]; omega, by show ys.length + 1 ≤ 1001; omega, bv⟩, EF, ET, EV, (funext t2).trans hU⟩, rfl, gS, kS, u9.at h367' (by decide)⟩
  refine ks_astore_n dX16_move_162 (by decide) rfl ?_
  refine ks_sub [(3, _), (0, _), (1, _)] rfl ?_
  refine ks_aload_n dX16_move_163 rfl rfl ?_
  refine ks_getf (T := TX16) (kf := 68) kx_2436 rfl in_X16 cl_X16 (by decide) o1 rfl dX16_move_164 rfl ?_
  refine ks_aload_n dX16_move_167 rfl rfl ?_
  refine ks_getf (T := TX16) (kf := 70) kx_2438 rfl in_X16 cl_X16 (by decide) o1 rfl dX16_move_168 rfl ?_
  refine ks_tv v70 ?_
  refine ks_aload_n dX16_move_171 rfl rfl ?_
  refine ks_getf (T := TX16) (kf := 65) kx_2433 rfl in_X16 cl_X16 (by decide) o1 rfl dX16_move_172 rfl ?_
  refine ks_aload_n dX16_move_175 rfl rfl ?_
  refine ks_getf (T := TX16) (kf := 67) kx_2435 rfl in_X16 cl_X16 (by decide) o1 rfl dX16_move_176 rfl ?_
  refine ks_tv v67 ?_
  refine ks_iconst (x := nI 1) dX16_move_179 (by decide) rfl ?_
  refine ks_subN (by omega) dX16_move_180 rfl ?_
  refine ks_aaldN (i := xs.length - 1) (b := q) (by decide) tF rfl (by omega) (by decide) qT dX16_move_181 rfl ?_
  refine ks_aastAN (i := ys.length) kx_74 tT q1 (by omega) (by decide) dX16_move_182 rfl ?_
  refine ks_aload_n dX16_move_183 rfl rfl ?_
  refine ks_getf (T := TX16) (kf := 69) kx_2437 rfl in_X16 cl_X16 (by decide) ((ks_set_ne _ _ (by decide)).trans o1) rfl dX16_move_184 rfl ?_
  refine ks_aload_n dX16_move_187 rfl rfl ?_
  refine ks_getf (T := TX16) (kf := 70) kx_2438 rfl in_X16 cl_X16 (by decide) ((ks_set_ne _ _ (by decide)).trans o1) rfl dX16_move_188 rfl ?_
  refine ks_tv v70 ?_
  refine ks_aload_n dX16_move_191 rfl rfl ?_
  refine ks_getf (T := TX16) (kf := 66) kx_2434 rfl in_X16 cl_X16 (by decide) ((ks_set_ne _ _ (by decide)).trans o1) rfl dX16_move_192 rfl ?_
  refine ks_aload_n dX16_move_195 rfl rfl ?_
  refine ks_getf (T := TX16) (kf := 67) kx_2435 rfl in_X16 cl_X16 (by decide) ((ks_set_ne _ _ (by decide)).trans o1) rfl dX16_move_196 rfl ?_
  refine ks_tv v67 ?_
  refine ks_iconst (x := nI 1) dX16_move_199 (by decide) rfl ?_
  refine ks_subN (by omega) dX16_move_200 rfl ?_
  refine ks_ialdN (i := xs.length - 1) ((ks_set_ne _ _ (by decide)).trans hF1) rfl (by omega) (by decide) dX16_move_201 rfl ?_
  refine ks_iastNN (i := ys.length) (v := sz (xs.length - 1)) (by decide) ((ks_set_ne _ _ (by decide)).trans hT9) (by omega) (by decide) dX16_move_202 rfl ?_
  refine ks_aload_n dX16_move_203 rfl rfl ?_
  refine ks_getf (T := TX16) (kf := 65) kx_2433 rfl in_X16 cl_X16 (by decide) ((ks_set_ne _ _ (by decide)).trans ((ks_set_ne _ _ (by decide)).trans o1)) rfl dX16_move_204 rfl ?_
  refine ks_aload_n dX16_move_207 rfl rfl ?_
  refine ks_getf (T := TX16) (kf := 67) kx_2435 rfl in_X16 cl_X16 (by decide) ((ks_set_ne _ _ (by decide)).trans ((ks_set_ne _ _ (by decide)).trans o1)) rfl dX16_move_208 rfl ?_
  refine ks_tv v67 ?_
  refine ks_iconst (x := nI 1) dX16_move_211 (by decide) rfl ?_
  refine ks_subN (by omega) dX16_move_212 rfl ?_
  refine ks_aload_n dX16_move_213 rfl rfl ?_
  refine ks_aastAN (i := xs.length - 1) kx_74 ((ks_set_ne _ _ (by decide)).trans ((ks_set_ne _ _ (by decide)).trans tF)) ((ks_set_ne _ _ (ks_ne er hT9 (fun h => by cases h))).trans ((ks_set_ne _ _ (ks_ne er tT (fun h => by cases h))).trans er)) (by omega) (by decide) dX16_move_214 rfl ?_
  refine ks_aload_n dX16_move_215 rfl rfl ?_
  refine ks_dup dX16_move_216 rfl rfl ?_
  refine ks_getf (T := TX16) (kf := 70) kx_2438 rfl in_X16 cl_X16 (by decide) ((ks_set_ne _ _ (by decide)).trans ((ks_set_ne _ _ (by decide)).trans ((ks_set_ne _ _ (by decide)).trans o1))) rfl dX16_move_217 rfl ?_
  refine ks_tv v70 ?_
  refine ks_iconst (x := nI 1) dX16_move_220 (by decide) rfl ?_
  refine ks_addN dX16_move_221 rfl ?_
  refine ks_putf (T := TX16) (kf := 70) kx_2438 rfl in_X16 tyX16_ok nmX16 cl_X16 (by decide) ((ks_set_ne _ _ (by decide)).trans ((ks_set_ne _ _ (by decide)).trans ((ks_set_ne _ _ (by decide)).trans o1))) (Nat.le_of_ble_eq_true rfl) rfl rfl rfl rfl dX16_move_222 rfl ?_
  refine md_put mdp_70 ?_
  refine ks_aload_n dX16_move_225 rfl rfl ?_
  refine ks_dup dX16_move_226 rfl rfl ?_
  refine ks_getf (T := TX16) (kf := 67) kx_2435 rfl in_X16 cl_X16 (by decide) (ks_set_same _ _ _) rfl dX16_move_227 rfl ?_
  refine ks_tv ((va_up_ne _ _ (by decide)).trans v67) ?_
  refine ks_iconst (x := nI 1) dX16_move_230 (by decide) rfl ?_
  refine ks_subN (by omega) dX16_move_231 rfl ?_
  refine ks_putf (T := TX16) (kf := 67) kx_2435 rfl in_X16 tyX16_ok nmX16 cl_X16 (by decide) (ks_set_same _ _ _) (Nat.le_of_ble_eq_true rfl) rfl rfl rfl rfl dX16_move_232 rfl ?_
  refine md_put mdp_67 ?_
  refine ks_goto (tgt := 604) dX16_move_235 (by decide) ?_
  refine ks_ret rfl dX16_move_604 ?_
  exact key _ (((((ks_up_set (L := [290, 363, 364, 361]) _ _ (by decide)).trans (ks_up_set _ _ (by decide))).trans (ks_up_set _ _ (by decide))).trans (ks_up_set _ _ (by decide))).trans (ks_up_set _ _ (by decide))) (ks_set_same _ _ _) ((ks_set_ne _ _ (by decide)).trans ((ks_set_ne _ _ (by decide)).trans ((ks_set_ne _ _ (by decide)).trans ((ks_set_ne _ _ (by decide)).trans (ks_set_same _ _ _))))) ((ks_set_ne _ _ (by decide)).trans ((ks_set_ne _ _ (by decide)).trans ((ks_set_ne _ _ (by decide)).trans (ks_set_same _ _ _)))) ((ks_set_ne _ _ (by decide)).trans ((ks_set_ne _ _ (by decide)).trans (ks_set_same _ _ _)))
set_option maxRecDepth 100000 in
set_option maxHeartbeats 1600000 in
theorem l_mv108 {l : Launch} {G : ks_G} {d : Nat} {S : ks_S} {V : Nat → Value} {F : Nat} {xs ys : List (List Nat)} {vs : Vs} (hO : S.2.2 290 = some (rfE V)) (hK : rsQ S V F xs ys vs) {P : Option Value → ks_S → Prop} {op : Nat} (hn : 0 < ys.length) (hl : xs.length + ys.length ≤ 1000) (v74 : V 74 = .int (ks_bo false)) (hk : ∀ S' V' F', msK S S' V V' F F' → V' 74 = .int (ks_bo false) → rsQ S' V' F' ((ys.getD 0 [] :: xs)) (ys.drop 1) vs → P none S') : ks_X l G mX16_move (d + 1) 253 [(0, .ref 290), (1, .int (nI op))] [] S P := by
  obtain ⟨T, sz, oz, vz, hK', rfl, gS, kS, h367⟩ := hK
  have hK := hK'
  obtain ⟨hT, ⟨h362, h364, h366⟩, ⟨v67, v70, v73⟩, ⟨bx, by9, bv⟩, hx, hys, hvs, hU⟩ := id hK
  refine ks_aload_n dX16_move_253 rfl rfl ?_
  refine ks_getf (T := TX16) (kf := 65) kx_2433 rfl in_X16 cl_X16 (by decide) hO rfl dX16_move_254 rfl ?_
  refine ks_aload_n dX16_move_257 rfl rfl ?_
  refine ks_getf (T := TX16) (kf := 67) kx_2435 rfl in_X16 cl_X16 (by decide) hO rfl dX16_move_258 rfl ?_
  refine ks_tv v67 ?_
  refine ks_callS (n := 2) (M' := mX16_row) (c_md_row (d := d) (a := 0) (i := xs.length) hT (by decide) (by omega)) kx_2181 kx_2182 kx_30 kx_2183 (by decide +kernel) rfl (by decide) (Nat.le_of_ble_eq_true rfl) rfl dX16_move_261 rfl (fun z1 S1 y1 => ?_)
  obtain ⟨T1, r, rfl, hT1, hr, hTT, hsame, hnew, sf, k520⟩ := y1
  obtain ⟨q, g, a1, a2, a3, a4, a5⟩ := hys (ys.length - 1) (by omega)
  rw [show ys.length - 1 - (ys.length - 1) = 0 by omega] at a5
  have qT : T1 1 (ys.length - 1) = some q := (hTT 1 (ys.length - 1) (Or.inl (by decide))).trans a1
  have q1 := k520 q g a2
  obtain ⟨-, g0, kg0, er⟩ := hT1.2.2.1 _ _ _ hr
  have o1 : S1.2.2 290 = some (rfE V) := sf.2 290 _ hO (by decide) (fun g h => by cases h)
  have hF1 : S1.2.2 364 = some (kN 1002 oz) := sf.2 364 _ h364 (by decide) (fun g h => by cases h)
  have hT9 : S1.2.2 362 = some (kN 1002 sz) := sf.2 362 _ h362 (by decide) (fun g h => by cases h)
  have h366' : S1.2.2 366 = some (kN 1002 vz) := sf.2 366 _ h366 (by decide) (fun g h => by cases h)
  have h367' : S1.2.2 367 = some (kB 9 gS) := sf.2 367 _ h367 (by decide) (fun g h => absurd (kB_lq h) (by decide))
  have tF : S1.2.2 363 = some (kA 4 1002 (T1 1)) := hT1.1 1 (by decide)
  have tT : S1.2.2 361 = some (kA 4 1002 (T1 0)) := hT1.1 0 (by decide)
  have key : ∀ S9 : ks_S, ks_up S1 S9 [290, 361, 362, 363] → S9.2.2 290 = some (rfE (va_up (va_up V 70 (.int (nI (ys.length - 1)))) 67 (.int (nI (xs.length + 1))))) → S9.2.2 361 = some (kA 4 1002 (va_up (T1 0) xs.length (some q))) → S9.2.2 362 = some (kN 1002 (va_up sz xs.length (oz (ys.length - 1)))) → S9.2.2 363 = some (kA 4 1002 (va_up (T1 1) (ys.length - 1) (some r))) → P none S9 := by
    intro S9 u9 o9 e1 e2 e3
    have hL2 : ∀ x ∈ ([290, 361, 362, 363] : List Nat), ∃ e, S1.2.2 x = some e ∧ ∀ g, e ≠ kB 520 g := fun x hx => by
      simp only [List.mem_cons, List.not_mem_nil, or_false] at hx
      rcases hx with rfl | rfl | rfl | rfl
      · exact ⟨_, o1, fun g h => by cases h⟩
      · exact ⟨_, tT, fun g h => by cases h⟩
      · exact ⟨_, hT9, fun g h => by cases h⟩
      · exact ⟨_, tF, fun g h => by cases h⟩
    obtain ⟨hT2, hfr⟩ := hT1.swap (a := 0) (b := 1) (by decide) (by decide) (by decide) hr qT u9 (by decide) hL2 e1 e3 (by decide)
    have kk : ∀ x g, S.2.2 x = some (kB 520 g) → S9.2.2 x = some (kB 520 g) := fun x g h => u9.at (k520 x g h) (fun hm => by obtain ⟨e, c1, c2⟩ := hL2 x hm; rw [k520 x g h] at c1; exact c2 g (Option.some.inj c1).symm)
    have fsf : sfK LSk S S9 (frT T) (frT (upT (upT T1 0 xs.length (some q)) 1 (ys.length - 1) (some r))) := by
      rw [hfr]
      exact (sf.mono (by decide)).trans (sfK.of (u9.mono (by decide)))
    have tto : ∀ i, i < xs.length → (upT (upT T1 0 xs.length (some q)) 1 (ys.length - 1) (some r)) 0 i = T 0 i := fun i hi => by rw [upT_ne (Or.inl (by decide)), upT_ne (Or.inr (by omega)), hTT 0 i (Or.inr (by omega))]
    have tfr : ∀ i, i < ys.length - 1 → (upT (upT T1 0 xs.length (some q)) 1 (ys.length - 1) (some r)) 1 i = T 1 i := fun i hi => by rw [upT_ne (Or.inr (by omega)), upT_ne (Or.inl (by decide)), hTT 1 i (Or.inl (by decide))]
    have t2 : ∀ i, (upT (upT T1 0 xs.length (some q)) 1 (ys.length - 1) (some r)) 2 i = T 2 i := fun i => by rw [upT_ne (Or.inl (by decide)), upT_ne (Or.inl (by decide)), hTT 2 i (Or.inl (by decide))]
    have tq : (upT (upT T1 0 xs.length (some q)) 1 (ys.length - 1) (some r)) 0 xs.length = some q := by rw [upT_ne (Or.inl (by decide)), upT_self]
    have EF : elR S9 ((upT (upT T1 0 xs.length (some q)) 1 (ys.length - 1) (some r)) 1) oz (ys.drop 1) := (hys.drop 1).keep (fun i hi => by rw [List.length_drop] at hi; exact ⟨tfr i hi, rfl⟩) (fun i x g9 hi h9 h => kk x g9 h)
    have ET : elR S9 ((upT (upT T1 0 xs.length (some q)) 1 (ys.length - 1) (some r)) 0) (va_up sz xs.length (oz (ys.length - 1))) (ys.getD 0 [] :: xs) := elR.cons (hx.keep (fun i hi => ⟨tto i hi, va_up_ne _ _ (by omega)⟩) (fun i x g9 hi h9 h => kk x g9 h)) tq (kk q g a2) a3 (by rw [va_up_self]; exact a4) (by rw [va_up_self]; exact a5)
    have EV : elR S9 ((upT (upT T1 0 xs.length (some q)) 1 (ys.length - 1) (some r)) 2) vz vs.2 := hvs.keep (fun i hi => ⟨t2 i, rfl⟩) (fun i x g9 hi h9 h => kk x g9 h)
    refine hk S9 (va_up (va_up V 70 (.int (nI (ys.length - 1)))) 67 (.int (nI (xs.length + 1)))) (frT (upT (upT T1 0 xs.length (some q)) 1 (ys.length - 1) (some r))) ⟨fsf, o9, fun k h1 h2 _ => (va_up_ne _ _ h1).trans (va_up_ne _ _ h2)⟩ ((va_up_ne _ _ (by decide)).trans ((va_up_ne _ _ (by decide)).trans v74)) ⟨(upT (upT T1 0 xs.length (some q)) 1 (ys.length - 1) (some r)), (va_up sz xs.length (oz (ys.length - 1))), oz, vz, ⟨hT2, ⟨e2, u9.at hF1 (by decide), u9.at h366' (by decide)⟩, ⟨va_up_self _ _ _, by rw [va_up_ne _ _ (by decide), va_up_self, List.length_drop], (va_up_ne _ _ (by decide)).trans ((va_up_ne _ _ (by decide)).trans v73)⟩, ⟨by show xs.length + 1 ≤ 1001; omega, by rw [List.length_drop]; omega, bv⟩, ET, EF, EV, (funext t2).trans hU⟩, rfl, gS, kS, u9.at h367' (by decide)⟩
  refine ks_astore dX16_move_264 (by decide) rfl ?_
  refine ks_sub [(4, _), (0, _), (1, _)] rfl ?_
  refine ks_aload_n dX16_move_266 rfl rfl ?_
  refine ks_dup dX16_move_267 rfl rfl ?_
  refine ks_getf (T := TX16) (kf := 70) kx_2438 rfl in_X16 cl_X16 (by decide) o1 rfl dX16_move_268 rfl ?_
  refine ks_tv v70 ?_
  refine ks_iconst (x := nI 1) dX16_move_271 (by decide) rfl ?_
  refine ks_subN (by omega) dX16_move_272 rfl ?_
  refine ks_putf (T := TX16) (kf := 70) kx_2438 rfl in_X16 tyX16_ok nmX16 cl_X16 (by decide) o1 (Nat.le_of_ble_eq_true rfl) rfl rfl rfl rfl dX16_move_273 rfl ?_
  refine md_put mdp_70 ?_
  refine ks_aload_n dX16_move_276 rfl rfl ?_
  refine ks_getf (T := TX16) (kf := 65) kx_2433 rfl in_X16 cl_X16 (by decide) (ks_set_same _ _ _) rfl dX16_move_277 rfl ?_
  refine ks_aload_n dX16_move_280 rfl rfl ?_
  refine ks_getf (T := TX16) (kf := 67) kx_2435 rfl in_X16 cl_X16 (by decide) (ks_set_same _ _ _) rfl dX16_move_281 rfl ?_
  refine ks_tv ((va_up_ne _ _ (by decide)).trans v67) ?_
  refine ks_aload_n dX16_move_284 rfl rfl ?_
  refine ks_getf (T := TX16) (kf := 68) kx_2436 rfl in_X16 cl_X16 (by decide) (ks_set_same _ _ _) rfl dX16_move_285 rfl ?_
  refine ks_aload_n dX16_move_288 rfl rfl ?_
  refine ks_getf (T := TX16) (kf := 70) kx_2438 rfl in_X16 cl_X16 (by decide) (ks_set_same _ _ _) rfl dX16_move_289 rfl ?_
  refine ks_tv (va_up_self _ _ _) ?_
  refine ks_aaldN (i := ys.length - 1) (b := q) (by decide) ((ks_set_ne _ _ (by decide)).trans tF) rfl (by omega) (by decide) qT dX16_move_292 rfl ?_
  refine ks_aastAN (i := xs.length) kx_74 ((ks_set_ne _ _ (by decide)).trans tT) ((ks_set_ne _ _ (ks_ne q1 o1 (fun h => by cases h))).trans q1) (by omega) (by decide) dX16_move_293 rfl ?_
  refine ks_aload_n dX16_move_294 rfl rfl ?_
  refine ks_getf (T := TX16) (kf := 66) kx_2434 rfl in_X16 cl_X16 (by decide) ((ks_set_ne _ _ (by decide)).trans (ks_set_same _ _ _)) rfl dX16_move_295 rfl ?_
  refine ks_aload_n dX16_move_298 rfl rfl ?_
  refine ks_getf (T := TX16) (kf := 67) kx_2435 rfl in_X16 cl_X16 (by decide) ((ks_set_ne _ _ (by decide)).trans (ks_set_same _ _ _)) rfl dX16_move_299 rfl ?_
  refine ks_tv ((va_up_ne _ _ (by decide)).trans v67) ?_
  refine ks_aload_n dX16_move_302 rfl rfl ?_
  refine ks_getf (T := TX16) (kf := 69) kx_2437 rfl in_X16 cl_X16 (by decide) ((ks_set_ne _ _ (by decide)).trans (ks_set_same _ _ _)) rfl dX16_move_303 rfl ?_
  refine ks_aload_n dX16_move_306 rfl rfl ?_
  refine ks_getf (T := TX16) (kf := 70) kx_2438 rfl in_X16 cl_X16 (by decide) ((ks_set_ne _ _ (by decide)).trans (ks_set_same _ _ _)) rfl dX16_move_307 rfl ?_
  refine ks_tv (va_up_self _ _ _) ?_
  refine ks_ialdN (i := ys.length - 1) ((ks_set_ne _ _ (by decide)).trans ((ks_set_ne _ _ (by decide)).trans hF1)) rfl (by omega) (by decide) dX16_move_310 rfl ?_
  refine ks_iastNN (i := xs.length) (v := oz (ys.length - 1)) (by decide) ((ks_set_ne _ _ (by decide)).trans ((ks_set_ne _ _ (by decide)).trans hT9)) (by omega) (by decide) dX16_move_311 rfl ?_
  refine ks_aload_n dX16_move_312 rfl rfl ?_
  refine ks_getf (T := TX16) (kf := 68) kx_2436 rfl in_X16 cl_X16 (by decide) ((ks_set_ne _ _ (by decide)).trans ((ks_set_ne _ _ (by decide)).trans (ks_set_same _ _ _))) rfl dX16_move_313 rfl ?_
  refine ks_aload_n dX16_move_316 rfl rfl ?_
  refine ks_getf (T := TX16) (kf := 70) kx_2438 rfl in_X16 cl_X16 (by decide) ((ks_set_ne _ _ (by decide)).trans ((ks_set_ne _ _ (by decide)).trans (ks_set_same _ _ _))) rfl dX16_move_317 rfl ?_
  refine ks_tv (va_up_self _ _ _) ?_
  refine ks_aload dX16_move_320 rfl rfl ?_
  refine ks_aastAN (i := ys.length - 1) kx_74 ((ks_set_ne _ _ (by decide)).trans ((ks_set_ne _ _ (by decide)).trans ((ks_set_ne _ _ (by decide)).trans tF))) ((ks_set_ne _ _ (ks_ne er hT9 (fun h => by cases h))).trans ((ks_set_ne _ _ (ks_ne er tT (fun h => by cases h))).trans ((ks_set_ne _ _ (ks_ne er o1 (fun h => by cases h))).trans er))) (by omega) (by decide) dX16_move_322 rfl ?_
  refine ks_aload_n dX16_move_323 rfl rfl ?_
  refine ks_dup dX16_move_324 rfl rfl ?_
  refine ks_getf (T := TX16) (kf := 67) kx_2435 rfl in_X16 cl_X16 (by decide) ((ks_set_ne _ _ (by decide)).trans ((ks_set_ne _ _ (by decide)).trans ((ks_set_ne _ _ (by decide)).trans (ks_set_same _ _ _)))) rfl dX16_move_325 rfl ?_
  refine ks_tv ((va_up_ne _ _ (by decide)).trans v67) ?_
  refine ks_iconst (x := nI 1) dX16_move_328 (by decide) rfl ?_
  refine ks_addN dX16_move_329 rfl ?_
  refine ks_putf (T := TX16) (kf := 67) kx_2435 rfl in_X16 tyX16_ok nmX16 cl_X16 (by decide) ((ks_set_ne _ _ (by decide)).trans ((ks_set_ne _ _ (by decide)).trans ((ks_set_ne _ _ (by decide)).trans (ks_set_same _ _ _)))) (Nat.le_of_ble_eq_true rfl) rfl rfl rfl rfl dX16_move_330 rfl ?_
  refine md_put mdp_67 ?_
  refine ks_goto (tgt := 604) dX16_move_333 (by decide) ?_
  refine ks_ret rfl dX16_move_604 ?_
  exact key _ (((((ks_up_set (L := [290, 361, 362, 363]) _ _ (by decide)).trans (ks_up_set _ _ (by decide))).trans (ks_up_set _ _ (by decide))).trans (ks_up_set _ _ (by decide))).trans (ks_up_set _ _ (by decide))) (ks_set_same _ _ _) ((ks_set_ne _ _ (by decide)).trans ((ks_set_ne _ _ (by decide)).trans ((ks_set_ne _ _ (by decide)).trans (ks_set_same _ _ _)))) ((ks_set_ne _ _ (by decide)).trans ((ks_set_ne _ _ (by decide)).trans (ks_set_same _ _ _))) ((ks_set_ne _ _ (by decide)).trans (ks_set_same _ _ _))

/-! THE REFERENCE: assemble, seal -/
abbrev LAz : List Nat := [291, 292, 293, 299, 305, 529, 530, 355, 356, 357, 338, 345, 532, 370, 359]
theorem mg_byt {g : Nat → Nat} {x : List Nat} (h : ∀ j, j < x.length → g j = mg x j) : x = bytL g 0 x.length := by
  refine Eq.trans (bytL_getD x).symm ?_
  exact bytL_congr (fun j hj => by rw [Nat.zero_add]; exact (h j hj).symm)
theorem dr_zero {md : Nat} {hs : List Nat} {dt : Int64} {bt : Int32} {D : Nat → dTx} {t : Nat} {C : List Nat} (h : hs.length = 32) : ∀ k, k < 4 → mg (drH md hs dt bt D t ++ cntL t ++ C) (76 + k) = 0 := fun k hk => by
  have e : ∃ A : List Nat, A.length = 76 ∧ drH md hs dt bt D t = A ++ numL (lN 0) 4 := by
    refine ⟨_, ?_, rfl⟩
    by_cases h5 : md = 5
    · rw [if_pos h5]
      simp only [List.length_append, numL_len, bytL_len]
    · rw [if_neg h5]
      simp only [List.length_append, numL_len, bytL_len, h]
  obtain ⟨A, hA, e⟩ := e
  rw [e, List.append_assoc (A ++ numL (lN 0) 4), mg_app A (numL (lN 0) 4) (cntL t ++ C) (p := 76 + k) (j := k) (by rw [hA]) (by rw [numL_len]; exact hk)]
  exact (show ∀ k, k < 4 → (numL (lN 0) 4).getD k 0 = 0 by decide) k hk
theorem asR.up {S S1 : ks_S} {L : List Nat} (h : asR S) (hu : ks_up S S1 L) (hL : ∀ x ∈ L, x = 290 ∨ x = 531) : asR S1 := by
  have n : ∀ {a : Nat}, a ≠ 290 → a ≠ 531 → a ∉ L := fun h1 h2 hm => by have := hL _ hm; omega
  obtain ⟨hM, ⟨g1, k1, e1⟩, ⟨g2, k2, e2⟩, ⟨g3, k3, e3⟩, ⟨g4, k4, e4⟩, ⟨g5, k5, e5⟩, ⟨g6, k6, e6⟩, ⟨x1, w1⟩, ⟨f1, e7⟩, ⟨x2, w2⟩, ⟨g8, k8, e8⟩, x3, w3⟩ := h
  exact ⟨hM.up hu (fun x hx => by have := hL x hx; omega), ⟨g1, k1, hu.at e1 (n (by decide) (by decide))⟩, ⟨g2, k2, hu.at e2 (n (by decide) (by decide))⟩, ⟨g3, k3, hu.at e3 (n (by decide) (by decide))⟩, ⟨g4, k4, hu.at e4 (n (by decide) (by decide))⟩, ⟨g5, k5, hu.at e5 (n (by decide) (by decide))⟩, ⟨g6, k6, hu.at e6 (n (by decide) (by decide))⟩, ⟨x1, w1.up hu (n (by decide) (by decide))⟩, ⟨f1, hu.at e7 (n (by decide) (by decide))⟩, ⟨x2, w2.up hu (n (by decide) (by decide))⟩, ⟨g8, k8, hu.at e8 (n (by decide) (by decide))⟩, x3, w3.up hu (n (by decide) (by decide))⟩
set_option maxRecDepth 100000 in
set_option maxHeartbeats 800000 in
theorem c_md_asmQ0 {l : Launch} {G : ks_G} {d : Nat} {S : ks_S} {V : Nat → Value} {t : Nat} {dt : Int64} {D : Nat → dTx} (hO : S.2.2 290 = some (rfE V)) (hD : rdS S t D) (v94 : V 94 = .int (nI t)) (v93 : V 93 = .long dt) (hA : asR S) {n q : Nat} {B : Nat → Bk} (v92 : V 92 = .int (nI q)) (hR : rbS S n B) (hq : q < n) (hW : chW n B) (hH : rbH n B) (hhb : bkH (B q) < 2 ^ 30) (h337 : wA S 337 (tg_num 545259519)) (hdb : dueB B q < 2 ^ 32) : ks_P l G yX16_assemble mX16_assemble (d + 5) [.ref 290, .int (nI 0)] S (fun z S' => z = none ∧ ∃ V', pbK LAz [107] S S' V V' ∧ asR S' ∧ buX S' V' 529 131072 107 (slF 0 B q dt D t)) := by
  refine ks_of (by decide) rfl rfl (Nat.le_of_ble_eq_true rfl) ?_
  show ks_X l G mX16_assemble (d + 5) 0 [(0, .ref 290), (1, .int (nI 0))] [] S _
  have eF : (slF 0 B q dt D t) = (sNc (drH 0 (bytL (hsB (bkM (B q))) 0 32) dt (nI (dueB B q)) D t ++ cntL t ++ catT D t) (fnN (drH 0 (bytL (hsB (bkM (B q))) 0 32) dt (nI (dueB B q)) D t ++ cntL t ++ catT D t) true (tg_num (dueB B q)) 4096 0)) := by
    unfold slF slM
    rw [show decide (0 ≠ 3) = true from by decide]
  rw [eF]
  clear eF
  refine l_asAQ hO hD v94 hA v92 hR hq hW hH hhb h337 hdb (fun T1 V1 K1 A1 w1 r1 => ?_)
  obtain ⟨gr, kgr, e357, hgr⟩ := r1
  obtain ⟨g29, k29, e29⟩ := A1.2.2.1
  have nL : ∀ x ∈ 290 :: LAa, x < 374 ∨ 528 < x := by decide
  refine l_asBQ0 K1.2.1 (hD.up K1.1 nL) ((K1.2.2 94 (by decide)).trans v94) ((K1.2.2 93 (by decide)).trans v93) ((K1.2.2 92 (by decide)).trans v92) (hR.up K1.1 (fun x hx => by simp only [LAa, List.mem_cons, List.not_mem_nil, or_false] at hx; omega)) hq e29 k29 e357 kgr hgr (fun T2 V2 K2 B2 => ?_)
  obtain ⟨M9, eM⟩ : ∃ m, m = (drH 0 (bytL (hsB (bkM (B q))) 0 32) dt (nI (dueB B q)) D t ++ cntL t ++ catT D t) := ⟨_, rfl⟩
  have hz : ∀ k, k < 4 → mg M9 (76 + k) = 0 := by rw [eM]; exact dr_zero (bytL_len _ _ _)
  have h80 : 80 ≤ M9.length := by
    rw [eM, List.append_assoc, List.length_append, drH_len9 (bytL_len _ _ _)]
    omega
  rw [← eM] at B2
  rw [← eM]
  obtain ⟨vM, g2, e2, kg2, hM13, em⟩ := B2
  obtain ⟨hM1, f1, -, ⟨g30, k30, e30⟩, ⟨g55, k55, e55⟩, ⟨g56, k56, e56⟩, ⟨g57, k57, e57⟩, ⟨x38, w38⟩, ⟨f45, e45⟩, -, ⟨g70, k70, e70⟩, x59, w59⟩ := A1
  obtain ⟨g5, k5, f1⟩ := f1
  have n2 : ∀ {a : Nat} {e : ks_E}, T1.2.2 a = some e → a ≠ 290 → a ≠ 529 → T2.2.2 a = some e := fun h1 h2 h3 => K2.1.at h1 (by simp only [List.mem_cons, List.not_mem_nil, or_false]; omega)
  have w2 : wA T2 532 (tg_num (dueB B q)) := w1.up K2.1 (by decide)
  refine ks_iconst (x := nI 0) dX16_assemble_231 (by decide) rfl ?_
  refine ks_istore_n dX16_assemble_232 (by decide) rfl ?_
  refine ks_sub [(3, _), (0, _), (1, _), (2, _)] rfl ?_
  refine ks_sub [(0, _), (1, _), (2, _), (3, .int (nI 0))] rfl (l_asNn (md := 0) (by decide) (by decide) K2.2.1 h80 hM13 hz w2 (fun T3 u3 o3 M3 f3 d3 x3 y3 => ?_) 4096 0 T2 g2 (by decide) rfl (ks_up.rf _ _) (hM1.up K2.1 (by decide)) ⟨g5, k5, n2 f1 (by decide) (by decide)⟩ ⟨g70, k70, n2 e70 (by decide) (by decide)⟩ ⟨x59, w59.up K2.1 (by decide)⟩ e2 kg2 (fun j hj _ => bytL_mg em hj) (Or.inl rfl))
  obtain ⟨N9, eN⟩ : ∃ v, v = fnN M9 true (tg_num (dueB B q)) 4096 0 := ⟨_, rfl⟩
  rw [← eN] at y3 ⊢
  obtain ⟨g3, e3, kg3, hg3⟩ := y3
  have n3 : ∀ {a : Nat} {e : ks_E}, T1.2.2 a = some e → a ≠ 290 → a ∉ LAc → T3.2.2 a = some e := fun h1 h2 h3 => u3.at (n2 h1 h2 (fun h => h3 (by rw [h]; decide))) h3
  refine ⟨rfl, V2, ⟨((K1.1.mono (by decide)).trans (K2.1.mono (by decide))).trans (u3.mono (by decide)), o3, fun k hk => (K2.2.2 k (fun e => hk (by rw [e]; decide))).trans (K1.2.2 k hk)⟩, ⟨M3, f3, ⟨g3, kg3, e3⟩, ⟨g30, k30, n3 e30 (by decide) (by decide)⟩, ⟨g55, k55, n3 e55 (by decide) (by decide)⟩, ⟨g56, k56, n3 e56 (by decide) (by decide)⟩, ⟨g57, k57, n3 e57 (by decide) (by decide)⟩, ⟨x38, (w38.up K2.1 (by decide)).up u3 (by decide)⟩, ⟨f45, n3 e45 (by decide) (by decide)⟩, ⟨_, w2.up u3 (by decide)⟩, d3, x3⟩, ?_, g3, e3, kg3, ?_, ?_⟩
  · rw [sNc_len]
    exact vM
  · rw [sNc_len]
    exact hM13
  · exact mg_byt (fun j hj => by rw [sNc_len] at hj; exact hg3 j hj)
set_option maxRecDepth 100000 in
set_option maxHeartbeats 800000 in
theorem c_md_asmQ1 {l : Launch} {G : ks_G} {d : Nat} {S : ks_S} {V : Nat → Value} {t : Nat} {dt : Int64} {D : Nat → dTx} (hO : S.2.2 290 = some (rfE V)) (hD : rdS S t D) (v94 : V 94 = .int (nI t)) (v93 : V 93 = .long dt) (hA : asR S) {n q : Nat} {B : Nat → Bk} (v92 : V 92 = .int (nI q)) (hR : rbS S n B) (hq : q < n) (hW : chW n B) (hH : rbH n B) (hhb : bkH (B q) < 2 ^ 30) (h337 : wA S 337 (tg_num 545259519)) (hdb : dueB B q < 2 ^ 32) : ks_P l G yX16_assemble mX16_assemble (d + 5) [.ref 290, .int (nI 1)] S (fun z S' => z = none ∧ ∃ V', pbK LAz [107] S S' V V' ∧ asR S' ∧ buX S' V' 529 131072 107 (slF 1 B q dt D t)) := by
  refine ks_of (by decide) rfl rfl (Nat.le_of_ble_eq_true rfl) ?_
  show ks_X l G mX16_assemble (d + 5) 0 [(0, .ref 290), (1, .int (nI 1))] [] S _
  have eF : (slF 1 B q dt D t) = (sNc (drH 1 (bytL (hsB (bkM (B q))) 0 32) dt (nI (dueB B q)) D t ++ cntL t ++ catT D t) (fnN (drH 1 (bytL (hsB (bkM (B q))) 0 32) dt (nI (dueB B q)) D t ++ cntL t ++ catT D t) true (tg_num (dueB B q)) 4096 0)) := by
    unfold slF slM
    rw [show decide (1 ≠ 3) = true from by decide]
  rw [eF]
  clear eF
  refine l_asAQ hO hD v94 hA v92 hR hq hW hH hhb h337 hdb (fun T1 V1 K1 A1 w1 r1 => ?_)
  obtain ⟨gr, kgr, e357, hgr⟩ := r1
  obtain ⟨g29, k29, e29⟩ := A1.2.2.1
  have nL : ∀ x ∈ 290 :: LAa, x < 374 ∨ 528 < x := by decide
  refine l_asBQ1 K1.2.1 (hD.up K1.1 nL) ((K1.2.2 94 (by decide)).trans v94) ((K1.2.2 93 (by decide)).trans v93) ((K1.2.2 92 (by decide)).trans v92) (hR.up K1.1 (fun x hx => by simp only [LAa, List.mem_cons, List.not_mem_nil, or_false] at hx; omega)) hq e29 k29 e357 kgr hgr (fun T2 V2 K2 B2 => ?_)
  obtain ⟨M9, eM⟩ : ∃ m, m = (drH 1 (bytL (hsB (bkM (B q))) 0 32) dt (nI (dueB B q)) D t ++ cntL t ++ catT D t) := ⟨_, rfl⟩
  have hz : ∀ k, k < 4 → mg M9 (76 + k) = 0 := by rw [eM]; exact dr_zero (bytL_len _ _ _)
  have h80 : 80 ≤ M9.length := by
    rw [eM, List.append_assoc, List.length_append, drH_len9 (bytL_len _ _ _)]
    omega
  rw [← eM] at B2
  rw [← eM]
  obtain ⟨vM, g2, e2, kg2, hM13, em⟩ := B2
  obtain ⟨hM1, f1, -, ⟨g30, k30, e30⟩, ⟨g55, k55, e55⟩, ⟨g56, k56, e56⟩, ⟨g57, k57, e57⟩, ⟨x38, w38⟩, ⟨f45, e45⟩, -, ⟨g70, k70, e70⟩, x59, w59⟩ := A1
  obtain ⟨g5, k5, f1⟩ := f1
  have n2 : ∀ {a : Nat} {e : ks_E}, T1.2.2 a = some e → a ≠ 290 → a ≠ 529 → T2.2.2 a = some e := fun h1 h2 h3 => K2.1.at h1 (by simp only [List.mem_cons, List.not_mem_nil, or_false]; omega)
  have w2 : wA T2 532 (tg_num (dueB B q)) := w1.up K2.1 (by decide)
  refine ks_iconst (x := nI 0) dX16_assemble_231 (by decide) rfl ?_
  refine ks_istore_n dX16_assemble_232 (by decide) rfl ?_
  refine ks_sub [(3, _), (0, _), (1, _), (2, _)] rfl ?_
  refine ks_sub [(0, _), (1, _), (2, _), (3, .int (nI 0))] rfl (l_asNn (md := 1) (by decide) (by decide) K2.2.1 h80 hM13 hz w2 (fun T3 u3 o3 M3 f3 d3 x3 y3 => ?_) 4096 0 T2 g2 (by decide) rfl (ks_up.rf _ _) (hM1.up K2.1 (by decide)) ⟨g5, k5, n2 f1 (by decide) (by decide)⟩ ⟨g70, k70, n2 e70 (by decide) (by decide)⟩ ⟨x59, w59.up K2.1 (by decide)⟩ e2 kg2 (fun j hj _ => bytL_mg em hj) (Or.inl rfl))
  obtain ⟨N9, eN⟩ : ∃ v, v = fnN M9 true (tg_num (dueB B q)) 4096 0 := ⟨_, rfl⟩
  rw [← eN] at y3 ⊢
  obtain ⟨g3, e3, kg3, hg3⟩ := y3
  have n3 : ∀ {a : Nat} {e : ks_E}, T1.2.2 a = some e → a ≠ 290 → a ∉ LAc → T3.2.2 a = some e := fun h1 h2 h3 => u3.at (n2 h1 h2 (fun h => h3 (by rw [h]; decide))) h3
  refine ⟨rfl, V2, ⟨((K1.1.mono (by decide)).trans (K2.1.mono (by decide))).trans (u3.mono (by decide)), o3, fun k hk => (K2.2.2 k (fun e => hk (by rw [e]; decide))).trans (K1.2.2 k hk)⟩, ⟨M3, f3, ⟨g3, kg3, e3⟩, ⟨g30, k30, n3 e30 (by decide) (by decide)⟩, ⟨g55, k55, n3 e55 (by decide) (by decide)⟩, ⟨g56, k56, n3 e56 (by decide) (by decide)⟩, ⟨g57, k57, n3 e57 (by decide) (by decide)⟩, ⟨x38, (w38.up K2.1 (by decide)).up u3 (by decide)⟩, ⟨f45, n3 e45 (by decide) (by decide)⟩, ⟨_, w2.up u3 (by decide)⟩, d3, x3⟩, ?_, g3, e3, kg3, ?_, ?_⟩
  · rw [sNc_len]
    exact vM
  · rw [sNc_len]
    exact hM13
  · exact mg_byt (fun j hj => by rw [sNc_len] at hj; exact hg3 j hj)
set_option maxRecDepth 100000 in
set_option maxHeartbeats 800000 in
theorem c_md_asmQ2 {l : Launch} {G : ks_G} {d : Nat} {S : ks_S} {V : Nat → Value} {t : Nat} {dt : Int64} {D : Nat → dTx} (hO : S.2.2 290 = some (rfE V)) (hD : rdS S t D) (v94 : V 94 = .int (nI t)) (v93 : V 93 = .long dt) (hA : asR S) {n q : Nat} {B : Nat → Bk} (v92 : V 92 = .int (nI q)) (hR : rbS S n B) (hq : q < n) (hW : chW n B) (hH : rbH n B) (hhb : bkH (B q) < 2 ^ 30) (h337 : wA S 337 (tg_num 545259519)) (hdb : dueB B q < 2 ^ 32) : ks_P l G yX16_assemble mX16_assemble (d + 5) [.ref 290, .int (nI 2)] S (fun z S' => z = none ∧ ∃ V', pbK LAz [107] S S' V V' ∧ asR S' ∧ buX S' V' 529 131072 107 (slF 2 B q dt D t)) := by
  refine ks_of (by decide) rfl rfl (Nat.le_of_ble_eq_true rfl) ?_
  show ks_X l G mX16_assemble (d + 5) 0 [(0, .ref 290), (1, .int (nI 2))] [] S _
  have eF : (slF 2 B q dt D t) = (sNc (drH 2 (bytL (hsB (bkM (B q))) 0 32) dt (nI (dueB B q)) D t ++ cntL t ++ catT D t) (fnN (drH 2 (bytL (hsB (bkM (B q))) 0 32) dt (nI (dueB B q)) D t ++ cntL t ++ catT D t) true (tg_num (dueB B q)) 4096 0)) := by
    unfold slF slM
    rw [show decide (2 ≠ 3) = true from by decide]
  rw [eF]
  clear eF
  refine l_asAQ hO hD v94 hA v92 hR hq hW hH hhb h337 hdb (fun T1 V1 K1 A1 w1 r1 => ?_)
  obtain ⟨gr, kgr, e357, hgr⟩ := r1
  obtain ⟨g29, k29, e29⟩ := A1.2.2.1
  have nL : ∀ x ∈ 290 :: LAa, x < 374 ∨ 528 < x := by decide
  refine l_asBQ2 K1.2.1 (hD.up K1.1 nL) ((K1.2.2 94 (by decide)).trans v94) ((K1.2.2 93 (by decide)).trans v93) ((K1.2.2 92 (by decide)).trans v92) (hR.up K1.1 (fun x hx => by simp only [LAa, List.mem_cons, List.not_mem_nil, or_false] at hx; omega)) hq e29 k29 e357 kgr hgr (fun T2 V2 K2 B2 => ?_)
  obtain ⟨M9, eM⟩ : ∃ m, m = (drH 2 (bytL (hsB (bkM (B q))) 0 32) dt (nI (dueB B q)) D t ++ cntL t ++ catT D t) := ⟨_, rfl⟩
  have hz : ∀ k, k < 4 → mg M9 (76 + k) = 0 := by rw [eM]; exact dr_zero (bytL_len _ _ _)
  have h80 : 80 ≤ M9.length := by
    rw [eM, List.append_assoc, List.length_append, drH_len9 (bytL_len _ _ _)]
    omega
  rw [← eM] at B2
  rw [← eM]
  obtain ⟨vM, g2, e2, kg2, hM13, em⟩ := B2
  obtain ⟨hM1, f1, -, ⟨g30, k30, e30⟩, ⟨g55, k55, e55⟩, ⟨g56, k56, e56⟩, ⟨g57, k57, e57⟩, ⟨x38, w38⟩, ⟨f45, e45⟩, -, ⟨g70, k70, e70⟩, x59, w59⟩ := A1
  obtain ⟨g5, k5, f1⟩ := f1
  have n2 : ∀ {a : Nat} {e : ks_E}, T1.2.2 a = some e → a ≠ 290 → a ≠ 529 → T2.2.2 a = some e := fun h1 h2 h3 => K2.1.at h1 (by simp only [List.mem_cons, List.not_mem_nil, or_false]; omega)
  have w2 : wA T2 532 (tg_num (dueB B q)) := w1.up K2.1 (by decide)
  refine ks_iconst (x := nI 0) dX16_assemble_231 (by decide) rfl ?_
  refine ks_istore_n dX16_assemble_232 (by decide) rfl ?_
  refine ks_sub [(3, _), (0, _), (1, _), (2, _)] rfl ?_
  refine ks_sub [(0, _), (1, _), (2, _), (3, .int (nI 0))] rfl (l_asNn (md := 2) (by decide) (by decide) K2.2.1 h80 hM13 hz w2 (fun T3 u3 o3 M3 f3 d3 x3 y3 => ?_) 4096 0 T2 g2 (by decide) rfl (ks_up.rf _ _) (hM1.up K2.1 (by decide)) ⟨g5, k5, n2 f1 (by decide) (by decide)⟩ ⟨g70, k70, n2 e70 (by decide) (by decide)⟩ ⟨x59, w59.up K2.1 (by decide)⟩ e2 kg2 (fun j hj _ => bytL_mg em hj) (Or.inl rfl))
  obtain ⟨N9, eN⟩ : ∃ v, v = fnN M9 true (tg_num (dueB B q)) 4096 0 := ⟨_, rfl⟩
  rw [← eN] at y3 ⊢
  obtain ⟨g3, e3, kg3, hg3⟩ := y3
  have n3 : ∀ {a : Nat} {e : ks_E}, T1.2.2 a = some e → a ≠ 290 → a ∉ LAc → T3.2.2 a = some e := fun h1 h2 h3 => u3.at (n2 h1 h2 (fun h => h3 (by rw [h]; decide))) h3
  refine ⟨rfl, V2, ⟨((K1.1.mono (by decide)).trans (K2.1.mono (by decide))).trans (u3.mono (by decide)), o3, fun k hk => (K2.2.2 k (fun e => hk (by rw [e]; decide))).trans (K1.2.2 k hk)⟩, ⟨M3, f3, ⟨g3, kg3, e3⟩, ⟨g30, k30, n3 e30 (by decide) (by decide)⟩, ⟨g55, k55, n3 e55 (by decide) (by decide)⟩, ⟨g56, k56, n3 e56 (by decide) (by decide)⟩, ⟨g57, k57, n3 e57 (by decide) (by decide)⟩, ⟨x38, (w38.up K2.1 (by decide)).up u3 (by decide)⟩, ⟨f45, n3 e45 (by decide) (by decide)⟩, ⟨_, w2.up u3 (by decide)⟩, d3, x3⟩, ?_, g3, e3, kg3, ?_, ?_⟩
  · rw [sNc_len]
    exact vM
  · rw [sNc_len]
    exact hM13
  · exact mg_byt (fun j hj => by rw [sNc_len] at hj; exact hg3 j hj)
set_option maxRecDepth 100000 in
set_option maxHeartbeats 800000 in
theorem c_md_asmQ3 {l : Launch} {G : ks_G} {d : Nat} {S : ks_S} {V : Nat → Value} {t : Nat} {dt : Int64} {D : Nat → dTx} (hO : S.2.2 290 = some (rfE V)) (hD : rdS S t D) (v94 : V 94 = .int (nI t)) (v93 : V 93 = .long dt) (hA : asR S) {n q : Nat} {B : Nat → Bk} (v92 : V 92 = .int (nI q)) (hR : rbS S n B) (hq : q < n) (hW : chW n B) (hH : rbH n B) (hhb : bkH (B q) < 2 ^ 30) (h337 : wA S 337 (tg_num 545259519)) (hdb : dueB B q < 2 ^ 32) : ks_P l G yX16_assemble mX16_assemble (d + 5) [.ref 290, .int (nI 3)] S (fun z S' => z = none ∧ ∃ V', pbK LAz [107] S S' V V' ∧ asR S' ∧ buX S' V' 529 131072 107 (slF 3 B q dt D t)) := by
  refine ks_of (by decide) rfl rfl (Nat.le_of_ble_eq_true rfl) ?_
  show ks_X l G mX16_assemble (d + 5) 0 [(0, .ref 290), (1, .int (nI 3))] [] S _
  have eF : (slF 3 B q dt D t) = (sNc (drH 3 (bytL (hsB (bkM (B q))) 0 32) dt (nI (dueB B q)) D t ++ cntL t ++ catT D t) (fnN (drH 3 (bytL (hsB (bkM (B q))) 0 32) dt (nI (dueB B q)) D t ++ cntL t ++ catT D t) false (tg_num (dueB B q)) 4096 0)) := by
    unfold slF slM
    rw [show decide (3 ≠ 3) = false from by decide]
  rw [eF]
  clear eF
  refine l_asAQ hO hD v94 hA v92 hR hq hW hH hhb h337 hdb (fun T1 V1 K1 A1 w1 r1 => ?_)
  obtain ⟨gr, kgr, e357, hgr⟩ := r1
  obtain ⟨g29, k29, e29⟩ := A1.2.2.1
  have nL : ∀ x ∈ 290 :: LAa, x < 374 ∨ 528 < x := by decide
  refine l_asBQ3 K1.2.1 (hD.up K1.1 nL) ((K1.2.2 94 (by decide)).trans v94) ((K1.2.2 93 (by decide)).trans v93) ((K1.2.2 92 (by decide)).trans v92) (hR.up K1.1 (fun x hx => by simp only [LAa, List.mem_cons, List.not_mem_nil, or_false] at hx; omega)) hq e29 k29 e357 kgr hgr (fun T2 V2 K2 B2 => ?_)
  obtain ⟨M9, eM⟩ : ∃ m, m = (drH 3 (bytL (hsB (bkM (B q))) 0 32) dt (nI (dueB B q)) D t ++ cntL t ++ catT D t) := ⟨_, rfl⟩
  have hz : ∀ k, k < 4 → mg M9 (76 + k) = 0 := by rw [eM]; exact dr_zero (bytL_len _ _ _)
  have h80 : 80 ≤ M9.length := by
    rw [eM, List.append_assoc, List.length_append, drH_len9 (bytL_len _ _ _)]
    omega
  rw [← eM] at B2
  rw [← eM]
  obtain ⟨vM, g2, e2, kg2, hM13, em⟩ := B2
  obtain ⟨hM1, f1, -, ⟨g30, k30, e30⟩, ⟨g55, k55, e55⟩, ⟨g56, k56, e56⟩, ⟨g57, k57, e57⟩, ⟨x38, w38⟩, ⟨f45, e45⟩, -, ⟨g70, k70, e70⟩, x59, w59⟩ := A1
  obtain ⟨g5, k5, f1⟩ := f1
  have n2 : ∀ {a : Nat} {e : ks_E}, T1.2.2 a = some e → a ≠ 290 → a ≠ 529 → T2.2.2 a = some e := fun h1 h2 h3 => K2.1.at h1 (by simp only [List.mem_cons, List.not_mem_nil, or_false]; omega)
  have w2 : wA T2 532 (tg_num (dueB B q)) := w1.up K2.1 (by decide)
  refine ks_iconst (x := nI 0) dX16_assemble_231 (by decide) rfl ?_
  refine ks_istore_n dX16_assemble_232 (by decide) rfl ?_
  refine ks_sub [(3, _), (0, _), (1, _), (2, _)] rfl ?_
  refine ks_sub [(0, _), (1, _), (2, _), (3, .int (nI 0))] rfl (l_asN3 K2.2.1 h80 hM13 hz w2 (fun T3 u3 o3 M3 f3 d3 x3 y3 => ?_) 4096 0 T2 g2 (by decide) rfl (ks_up.rf _ _) (hM1.up K2.1 (by decide)) ⟨g5, k5, n2 f1 (by decide) (by decide)⟩ ⟨g70, k70, n2 e70 (by decide) (by decide)⟩ ⟨x59, w59.up K2.1 (by decide)⟩ e2 kg2 (fun j hj _ => bytL_mg em hj) (Or.inl rfl))
  obtain ⟨N9, eN⟩ : ∃ v, v = fnN M9 false (tg_num (dueB B q)) 4096 0 := ⟨_, rfl⟩
  rw [← eN] at y3 ⊢
  obtain ⟨g3, e3, kg3, hg3⟩ := y3
  have n3 : ∀ {a : Nat} {e : ks_E}, T1.2.2 a = some e → a ≠ 290 → a ∉ LAc → T3.2.2 a = some e := fun h1 h2 h3 => u3.at (n2 h1 h2 (fun h => h3 (by rw [h]; decide))) h3
  refine ⟨rfl, V2, ⟨((K1.1.mono (by decide)).trans (K2.1.mono (by decide))).trans (u3.mono (by decide)), o3, fun k hk => (K2.2.2 k (fun e => hk (by rw [e]; decide))).trans (K1.2.2 k hk)⟩, ⟨M3, f3, ⟨g3, kg3, e3⟩, ⟨g30, k30, n3 e30 (by decide) (by decide)⟩, ⟨g55, k55, n3 e55 (by decide) (by decide)⟩, ⟨g56, k56, n3 e56 (by decide) (by decide)⟩, ⟨g57, k57, n3 e57 (by decide) (by decide)⟩, ⟨x38, (w38.up K2.1 (by decide)).up u3 (by decide)⟩, ⟨f45, n3 e45 (by decide) (by decide)⟩, ⟨_, w2.up u3 (by decide)⟩, d3, x3⟩, ?_, g3, e3, kg3, ?_, ?_⟩
  · rw [sNc_len]
    exact vM
  · rw [sNc_len]
    exact hM13
  · exact mg_byt (fun j hj => by rw [sNc_len] at hj; exact hg3 j hj)
set_option maxRecDepth 100000 in
set_option maxHeartbeats 800000 in
theorem c_md_asmQ4 {l : Launch} {G : ks_G} {d : Nat} {S : ks_S} {V : Nat → Value} {t : Nat} {dt : Int64} {D : Nat → dTx} (hO : S.2.2 290 = some (rfE V)) (hD : rdS S t D) (v94 : V 94 = .int (nI t)) (v93 : V 93 = .long dt) (hA : asR S) {n q : Nat} {B : Nat → Bk} (v92 : V 92 = .int (nI q)) (hR : rbS S n B) (hq : q < n) (hW : chW n B) (hH : rbH n B) (hhb : bkH (B q) < 2 ^ 30) (h337 : wA S 337 (tg_num 545259519)) (hdb : dueB B q < 2 ^ 32) : ks_P l G yX16_assemble mX16_assemble (d + 5) [.ref 290, .int (nI 4)] S (fun z S' => z = none ∧ ∃ V', pbK LAz [107] S S' V V' ∧ asR S' ∧ buX S' V' 529 131072 107 (slF 4 B q dt D t)) := by
  refine ks_of (by decide) rfl rfl (Nat.le_of_ble_eq_true rfl) ?_
  show ks_X l G mX16_assemble (d + 5) 0 [(0, .ref 290), (1, .int (nI 4))] [] S _
  have eF : (slF 4 B q dt D t) = (sNc (drH 4 (bytL (hsB (bkM (B q))) 0 32) dt (nI (dueB B q)) D t ++ cntL t ++ catT D t) (fnN (drH 4 (bytL (hsB (bkM (B q))) 0 32) dt (nI (dueB B q)) D t ++ cntL t ++ catT D t) true (tg_num (dueB B q)) 4096 0)) := by
    unfold slF slM
    rw [show decide (4 ≠ 3) = true from by decide]
  rw [eF]
  clear eF
  refine l_asAQ hO hD v94 hA v92 hR hq hW hH hhb h337 hdb (fun T1 V1 K1 A1 w1 r1 => ?_)
  obtain ⟨gr, kgr, e357, hgr⟩ := r1
  obtain ⟨g29, k29, e29⟩ := A1.2.2.1
  have nL : ∀ x ∈ 290 :: LAa, x < 374 ∨ 528 < x := by decide
  refine l_asBQ4 K1.2.1 (hD.up K1.1 nL) ((K1.2.2 94 (by decide)).trans v94) ((K1.2.2 93 (by decide)).trans v93) ((K1.2.2 92 (by decide)).trans v92) (hR.up K1.1 (fun x hx => by simp only [LAa, List.mem_cons, List.not_mem_nil, or_false] at hx; omega)) hq e29 k29 e357 kgr hgr (fun T2 V2 K2 B2 => ?_)
  obtain ⟨M9, eM⟩ : ∃ m, m = (drH 4 (bytL (hsB (bkM (B q))) 0 32) dt (nI (dueB B q)) D t ++ cntL t ++ catT D t) := ⟨_, rfl⟩
  have hz : ∀ k, k < 4 → mg M9 (76 + k) = 0 := by rw [eM]; exact dr_zero (bytL_len _ _ _)
  have h80 : 80 ≤ M9.length := by
    rw [eM, List.append_assoc, List.length_append, drH_len9 (bytL_len _ _ _)]
    omega
  rw [← eM] at B2
  rw [← eM]
  obtain ⟨vM, g2, e2, kg2, hM13, em⟩ := B2
  obtain ⟨hM1, f1, -, ⟨g30, k30, e30⟩, ⟨g55, k55, e55⟩, ⟨g56, k56, e56⟩, ⟨g57, k57, e57⟩, ⟨x38, w38⟩, ⟨f45, e45⟩, -, ⟨g70, k70, e70⟩, x59, w59⟩ := A1
  obtain ⟨g5, k5, f1⟩ := f1
  have n2 : ∀ {a : Nat} {e : ks_E}, T1.2.2 a = some e → a ≠ 290 → a ≠ 529 → T2.2.2 a = some e := fun h1 h2 h3 => K2.1.at h1 (by simp only [List.mem_cons, List.not_mem_nil, or_false]; omega)
  have w2 : wA T2 532 (tg_num (dueB B q)) := w1.up K2.1 (by decide)
  refine ks_iconst (x := nI 0) dX16_assemble_231 (by decide) rfl ?_
  refine ks_istore_n dX16_assemble_232 (by decide) rfl ?_
  refine ks_sub [(3, _), (0, _), (1, _), (2, _)] rfl ?_
  refine ks_sub [(0, _), (1, _), (2, _), (3, .int (nI 0))] rfl (l_asNn (md := 4) (by decide) (by decide) K2.2.1 h80 hM13 hz w2 (fun T3 u3 o3 M3 f3 d3 x3 y3 => ?_) 4096 0 T2 g2 (by decide) rfl (ks_up.rf _ _) (hM1.up K2.1 (by decide)) ⟨g5, k5, n2 f1 (by decide) (by decide)⟩ ⟨g70, k70, n2 e70 (by decide) (by decide)⟩ ⟨x59, w59.up K2.1 (by decide)⟩ e2 kg2 (fun j hj _ => bytL_mg em hj) (Or.inl rfl))
  obtain ⟨N9, eN⟩ : ∃ v, v = fnN M9 true (tg_num (dueB B q)) 4096 0 := ⟨_, rfl⟩
  rw [← eN] at y3 ⊢
  obtain ⟨g3, e3, kg3, hg3⟩ := y3
  have n3 : ∀ {a : Nat} {e : ks_E}, T1.2.2 a = some e → a ≠ 290 → a ∉ LAc → T3.2.2 a = some e := fun h1 h2 h3 => u3.at (n2 h1 h2 (fun h => h3 (by rw [h]; decide))) h3
  refine ⟨rfl, V2, ⟨((K1.1.mono (by decide)).trans (K2.1.mono (by decide))).trans (u3.mono (by decide)), o3, fun k hk => (K2.2.2 k (fun e => hk (by rw [e]; decide))).trans (K1.2.2 k hk)⟩, ⟨M3, f3, ⟨g3, kg3, e3⟩, ⟨g30, k30, n3 e30 (by decide) (by decide)⟩, ⟨g55, k55, n3 e55 (by decide) (by decide)⟩, ⟨g56, k56, n3 e56 (by decide) (by decide)⟩, ⟨g57, k57, n3 e57 (by decide) (by decide)⟩, ⟨x38, (w38.up K2.1 (by decide)).up u3 (by decide)⟩, ⟨f45, n3 e45 (by decide) (by decide)⟩, ⟨_, w2.up u3 (by decide)⟩, d3, x3⟩, ?_, g3, e3, kg3, ?_, ?_⟩
  · rw [sNc_len]
    exact vM
  · rw [sNc_len]
    exact hM13
  · exact mg_byt (fun j hj => by rw [sNc_len] at hj; exact hg3 j hj)
set_option maxRecDepth 100000 in
set_option maxHeartbeats 800000 in
theorem c_md_asmQ5 {l : Launch} {G : ks_G} {d : Nat} {S : ks_S} {V : Nat → Value} {t : Nat} {dt : Int64} {D : Nat → dTx} (hO : S.2.2 290 = some (rfE V)) (hD : rdS S t D) (v94 : V 94 = .int (nI t)) (v93 : V 93 = .long dt) (hA : asR S) {n q : Nat} {B : Nat → Bk} (v92 : V 92 = .int (nI q)) (hR : rbS S n B) (hq : q < n) (hW : chW n B) (hH : rbH n B) (hhb : bkH (B q) < 2 ^ 30) (h337 : wA S 337 (tg_num 545259519)) (hdb : dueB B q < 2 ^ 32) : ks_P l G yX16_assemble mX16_assemble (d + 5) [.ref 290, .int (nI 5)] S (fun z S' => z = none ∧ ∃ V', pbK LAz [107] S S' V V' ∧ asR S' ∧ buX S' V' 529 131072 107 (slF 5 B q dt D t)) := by
  refine ks_of (by decide) rfl rfl (Nat.le_of_ble_eq_true rfl) ?_
  show ks_X l G mX16_assemble (d + 5) 0 [(0, .ref 290), (1, .int (nI 5))] [] S _
  have eF : (slF 5 B q dt D t) = (sNc (drH 5 (bytL (hsB (bkM (B q))) 0 32) dt (nI (dueB B q)) D t ++ cntL t ++ catT D t) (fnN (drH 5 (bytL (hsB (bkM (B q))) 0 32) dt (nI (dueB B q)) D t ++ cntL t ++ catT D t) true (tg_num (dueB B q)) 4096 0)) := by
    unfold slF slM
    rw [show decide (5 ≠ 3) = true from by decide]
  rw [eF]
  clear eF
  refine l_asAQ hO hD v94 hA v92 hR hq hW hH hhb h337 hdb (fun T1 V1 K1 A1 w1 r1 => ?_)
  obtain ⟨gr, kgr, e357, hgr⟩ := r1
  obtain ⟨g29, k29, e29⟩ := A1.2.2.1
  have nL : ∀ x ∈ 290 :: LAa, x < 374 ∨ 528 < x := by decide
  refine l_asBQ5 K1.2.1 (hD.up K1.1 nL) ((K1.2.2 94 (by decide)).trans v94) ((K1.2.2 93 (by decide)).trans v93) ((K1.2.2 92 (by decide)).trans v92) (hR.up K1.1 (fun x hx => by simp only [LAa, List.mem_cons, List.not_mem_nil, or_false] at hx; omega)) hq e29 k29 e357 kgr hgr (fun T2 V2 K2 B2 => ?_)
  obtain ⟨M9, eM⟩ : ∃ m, m = (drH 5 (bytL (hsB (bkM (B q))) 0 32) dt (nI (dueB B q)) D t ++ cntL t ++ catT D t) := ⟨_, rfl⟩
  have hz : ∀ k, k < 4 → mg M9 (76 + k) = 0 := by rw [eM]; exact dr_zero (bytL_len _ _ _)
  have h80 : 80 ≤ M9.length := by
    rw [eM, List.append_assoc, List.length_append, drH_len9 (bytL_len _ _ _)]
    omega
  rw [← eM] at B2
  rw [← eM]
  obtain ⟨vM, g2, e2, kg2, hM13, em⟩ := B2
  obtain ⟨hM1, f1, -, ⟨g30, k30, e30⟩, ⟨g55, k55, e55⟩, ⟨g56, k56, e56⟩, ⟨g57, k57, e57⟩, ⟨x38, w38⟩, ⟨f45, e45⟩, -, ⟨g70, k70, e70⟩, x59, w59⟩ := A1
  obtain ⟨g5, k5, f1⟩ := f1
  have n2 : ∀ {a : Nat} {e : ks_E}, T1.2.2 a = some e → a ≠ 290 → a ≠ 529 → T2.2.2 a = some e := fun h1 h2 h3 => K2.1.at h1 (by simp only [List.mem_cons, List.not_mem_nil, or_false]; omega)
  have w2 : wA T2 532 (tg_num (dueB B q)) := w1.up K2.1 (by decide)
  refine ks_iconst (x := nI 0) dX16_assemble_231 (by decide) rfl ?_
  refine ks_istore_n dX16_assemble_232 (by decide) rfl ?_
  refine ks_sub [(3, _), (0, _), (1, _), (2, _)] rfl ?_
  refine ks_sub [(0, _), (1, _), (2, _), (3, .int (nI 0))] rfl (l_asNn (md := 5) (by decide) (by decide) K2.2.1 h80 hM13 hz w2 (fun T3 u3 o3 M3 f3 d3 x3 y3 => ?_) 4096 0 T2 g2 (by decide) rfl (ks_up.rf _ _) (hM1.up K2.1 (by decide)) ⟨g5, k5, n2 f1 (by decide) (by decide)⟩ ⟨g70, k70, n2 e70 (by decide) (by decide)⟩ ⟨x59, w59.up K2.1 (by decide)⟩ e2 kg2 (fun j hj _ => bytL_mg em hj) (Or.inl rfl))
  obtain ⟨N9, eN⟩ : ∃ v, v = fnN M9 true (tg_num (dueB B q)) 4096 0 := ⟨_, rfl⟩
  rw [← eN] at y3 ⊢
  obtain ⟨g3, e3, kg3, hg3⟩ := y3
  have n3 : ∀ {a : Nat} {e : ks_E}, T1.2.2 a = some e → a ≠ 290 → a ∉ LAc → T3.2.2 a = some e := fun h1 h2 h3 => u3.at (n2 h1 h2 (fun h => h3 (by rw [h]; decide))) h3
  refine ⟨rfl, V2, ⟨((K1.1.mono (by decide)).trans (K2.1.mono (by decide))).trans (u3.mono (by decide)), o3, fun k hk => (K2.2.2 k (fun e => hk (by rw [e]; decide))).trans (K1.2.2 k hk)⟩, ⟨M3, f3, ⟨g3, kg3, e3⟩, ⟨g30, k30, n3 e30 (by decide) (by decide)⟩, ⟨g55, k55, n3 e55 (by decide) (by decide)⟩, ⟨g56, k56, n3 e56 (by decide) (by decide)⟩, ⟨g57, k57, n3 e57 (by decide) (by decide)⟩, ⟨x38, (w38.up K2.1 (by decide)).up u3 (by decide)⟩, ⟨f45, n3 e45 (by decide) (by decide)⟩, ⟨_, w2.up u3 (by decide)⟩, d3, x3⟩, ?_, g3, e3, kg3, ?_, ?_⟩
  · rw [sNc_len]
    exact vM
  · rw [sNc_len]
    exact hM13
  · exact mg_byt (fun j hj => by rw [sNc_len] at hj; exact hg3 j hj)
set_option maxRecDepth 100000 in
set_option maxHeartbeats 800000 in
theorem c_md_asmZ0 {l : Launch} {G : ks_G} {d : Nat} {S : ks_S} {V : Nat → Value} {t : Nat} {dt : Int64} {D : Nat → dTx} (hO : S.2.2 290 = some (rfE V)) (hD : rdS S t D) (v94 : V 94 = .int (nI t)) (v93 : V 93 = .long dt) (hA : asR S) (v92 : V 92 = .int (nI 0 - 1)) : ks_P l G yX16_assemble mX16_assemble (d + 5) [.ref 290, .int (nI 0)] S (fun z S' => z = none ∧ ∃ V', pbK LAz [107] S S' V V' ∧ asR S' ∧ buX S' V' 529 131072 107 (sNc (drH 0 (bytL (fun _ => 0) 0 32) dt (nI 545259519) D t ++ cntL t ++ catT D t) (fnN (drH 0 (bytL (fun _ => 0) 0 32) dt (nI 545259519) D t ++ cntL t ++ catT D t) true (tg_num 545259519) 4096 0))) := by
  refine ks_of (by decide) rfl rfl (Nat.le_of_ble_eq_true rfl) ?_
  show ks_X l G mX16_assemble (d + 5) 0 [(0, .ref 290), (1, .int (nI 0))] [] S _
  refine l_asAZ hO hD v94 hA v92 (fun T1 V1 K1 A1 w1 r1 => ?_)
  obtain ⟨gr, kgr, e357, hgr⟩ := r1
  obtain ⟨g29, k29, e29⟩ := A1.2.2.1
  have nL : ∀ x ∈ 290 :: LAa, x < 374 ∨ 528 < x := by decide
  refine l_asBZ0 K1.2.1 (hD.up K1.1 nL) ((K1.2.2 94 (by decide)).trans v94) ((K1.2.2 93 (by decide)).trans v93) ((K1.2.2 92 (by decide)).trans v92) e29 k29 e357 kgr hgr (fun T2 V2 K2 B2 => ?_)
  obtain ⟨M9, eM⟩ : ∃ m, m = (drH 0 (bytL (fun _ => 0) 0 32) dt (nI 545259519) D t ++ cntL t ++ catT D t) := ⟨_, rfl⟩
  have hz : ∀ k, k < 4 → mg M9 (76 + k) = 0 := by rw [eM]; exact dr_zero (bytL_len _ _ _)
  have h80 : 80 ≤ M9.length := by
    rw [eM, List.append_assoc, List.length_append, drH_len9 (bytL_len _ _ _)]
    omega
  rw [← eM] at B2
  rw [← eM]
  obtain ⟨vM, g2, e2, kg2, hM13, em⟩ := B2
  obtain ⟨hM1, f1, -, ⟨g30, k30, e30⟩, ⟨g55, k55, e55⟩, ⟨g56, k56, e56⟩, ⟨g57, k57, e57⟩, ⟨x38, w38⟩, ⟨f45, e45⟩, -, ⟨g70, k70, e70⟩, x59, w59⟩ := A1
  obtain ⟨g5, k5, f1⟩ := f1
  have n2 : ∀ {a : Nat} {e : ks_E}, T1.2.2 a = some e → a ≠ 290 → a ≠ 529 → T2.2.2 a = some e := fun h1 h2 h3 => K2.1.at h1 (by simp only [List.mem_cons, List.not_mem_nil, or_false]; omega)
  have w2 : wA T2 532 (tg_num 545259519) := w1.up K2.1 (by decide)
  refine ks_iconst (x := nI 0) dX16_assemble_231 (by decide) rfl ?_
  refine ks_istore_n dX16_assemble_232 (by decide) rfl ?_
  refine ks_sub [(3, _), (0, _), (1, _), (2, _)] rfl ?_
  refine ks_sub [(0, _), (1, _), (2, _), (3, .int (nI 0))] rfl (l_asNn (md := 0) (by decide) (by decide) K2.2.1 h80 hM13 hz w2 (fun T3 u3 o3 M3 f3 d3 x3 y3 => ?_) 4096 0 T2 g2 (by decide) rfl (ks_up.rf _ _) (hM1.up K2.1 (by decide)) ⟨g5, k5, n2 f1 (by decide) (by decide)⟩ ⟨g70, k70, n2 e70 (by decide) (by decide)⟩ ⟨x59, w59.up K2.1 (by decide)⟩ e2 kg2 (fun j hj _ => bytL_mg em hj) (Or.inl rfl))
  obtain ⟨N9, eN⟩ : ∃ v, v = fnN M9 true (tg_num 545259519) 4096 0 := ⟨_, rfl⟩
  rw [← eN] at y3 ⊢
  obtain ⟨g3, e3, kg3, hg3⟩ := y3
  have n3 : ∀ {a : Nat} {e : ks_E}, T1.2.2 a = some e → a ≠ 290 → a ∉ LAc → T3.2.2 a = some e := fun h1 h2 h3 => u3.at (n2 h1 h2 (fun h => h3 (by rw [h]; decide))) h3
  refine ⟨rfl, V2, ⟨((K1.1.mono (by decide)).trans (K2.1.mono (by decide))).trans (u3.mono (by decide)), o3, fun k hk => (K2.2.2 k (fun e => hk (by rw [e]; decide))).trans (K1.2.2 k hk)⟩, ⟨M3, f3, ⟨g3, kg3, e3⟩, ⟨g30, k30, n3 e30 (by decide) (by decide)⟩, ⟨g55, k55, n3 e55 (by decide) (by decide)⟩, ⟨g56, k56, n3 e56 (by decide) (by decide)⟩, ⟨g57, k57, n3 e57 (by decide) (by decide)⟩, ⟨x38, (w38.up K2.1 (by decide)).up u3 (by decide)⟩, ⟨f45, n3 e45 (by decide) (by decide)⟩, ⟨_, w2.up u3 (by decide)⟩, d3, x3⟩, ?_, g3, e3, kg3, ?_, ?_⟩
  · rw [sNc_len]
    exact vM
  · rw [sNc_len]
    exact hM13
  · exact mg_byt (fun j hj => by rw [sNc_len] at hj; exact hg3 j hj)
set_option maxRecDepth 100000 in
set_option maxHeartbeats 800000 in
theorem r_seal {l : Launch} {G : ks_G} {d : Nat} {S : ks_S} {V : Nat → Value} (hO : S.2.2 290 = some (rfE V)) {x : Int32} (hx : ¬ (¬ x < 0 ∧ x ≤ nI 5)) : ks_P l G yX16_seal mX16_seal (d + 1) [.ref 290, .int x] S (fun z S' => z = some (.int (nI 0)) ∧ ∃ V', pbK [] [111] S S' V V' ∧ V' 111 = .int (nI 1)) := by
  refine ks_of (by decide) rfl rfl (Nat.le_of_ble_eq_true rfl) ?_
  show ks_X l G mX16_seal (d + 1) 0 [(0, .ref 290), (1, .int x)] [] S _
  refine ks_aload_n dX16_seal_0 rfl rfl ?_
  refine ks_iload_n dX16_seal_1 rfl rfl ?_
  refine ks_if_lt (tgt := 14) dX16_seal_2 (by decide) rfl (fun hc2 => ?_) (fun hc2 => ?_)
  · refine ks_iconst (x := nI 0) dX16_seal_14 (by decide) rfl ?_
    refine ks_iconst (x := nI 1) dX16_seal_15 (by decide) rfl ?_
    refine ks_callV (n := 2) (M' := mX16_good) (c_md_good0 hO) hO cl_X16 rfl kx_2734 kx_2736 kxp_127 kx_30 kx_2737 (by decide +kernel) rfl (by decide) (Nat.le_of_ble_eq_true rfl) rfl dX16_seal_16 rfl (fun z16 S16 y16 => ?_)
    obtain ⟨rfl, V16, J16, v16⟩ := y16
    refine ks_if_neN (tgt := 24) (by decide) dX16_seal_19 (by decide) rfl (fun hc19 => ?_) (fun hc19 => ?_)
    · exact absurd hc19 (by decide)
    · refine ks_iconst (x := nI 0) dX16_seal_22 (by decide) rfl ?_
      refine ks_iret rfl dX16_seal_23 ?_
      exact ⟨rfl, _, J16, v16⟩
  · refine ks_iload_n dX16_seal_5 rfl rfl ?_
    refine ks_iconst (x := nI 5) dX16_seal_6 (by decide) rfl ?_
    refine ks_icmp_gt (tgt := 14) dX16_seal_7 (by decide) rfl (fun hc7 => ?_) (fun hc7 => ?_)
    · refine ks_iconst (x := nI 0) dX16_seal_14 (by decide) rfl ?_
      refine ks_iconst (x := nI 1) dX16_seal_15 (by decide) rfl ?_
      refine ks_callV (n := 2) (M' := mX16_good) (c_md_good0 hO) hO cl_X16 rfl kx_2734 kx_2736 kxp_127 kx_30 kx_2737 (by decide +kernel) rfl (by decide) (Nat.le_of_ble_eq_true rfl) rfl dX16_seal_16 rfl (fun z16 S16 y16 => ?_)
      obtain ⟨rfl, V16, J16, v16⟩ := y16
      refine ks_if_neN (tgt := 24) (by decide) dX16_seal_19 (by decide) rfl (fun hc19 => ?_) (fun hc19 => ?_)
      · exact absurd hc19 (by decide)
      · refine ks_iconst (x := nI 0) dX16_seal_22 (by decide) rfl ?_
        refine ks_iret rfl dX16_seal_23 ?_
        exact ⟨rfl, _, J16, v16⟩
    · refine ks_iconst (x := nI 1) dX16_seal_10 (by decide) rfl ?_
      refine ks_goto (tgt := 15) dX16_seal_11 (by decide) ?_
      refine ks_iconst (x := nI 1) dX16_seal_15 (by decide) rfl ?_
      exact absurd ⟨hc2, Int32.not_lt.mp hc7⟩ hx
set_option maxRecDepth 100000 in
set_option maxHeartbeats 800000 in
theorem l_slCp {l : Launch} {G : ks_G} {d : Nat} {S : ks_S} {V : Nat → Value} {P : Option Value → ks_S → Prop} {gd gs : Nat → Nat} {L : Nat} (hO : S.2.2 290 = some (rfE V)) (hs9 : S.2.2 529 = some (kB 131072 gs)) (kgs : kO gs) (hd9 : S.2.2 531 = some (kB 1600 gd)) (kgd : kO gd) (hL : L ≤ 1600) (vL : V 107 = .int (nI L)) (hk : ∀ S1 : ks_S, ks_up S S1 [531] → S1.2.2 531 = some (kB 1600 (ks_pt (fun j => gs (j)) gd 0 L)) → kO (ks_pt (fun j => gs (j)) gd 0 L) → ks_X l G mX16_seal d 82 [(0, .ref 290)] [] S1 P) : ∀ (u i : Nat) (S1 : ks_S), i + u = L → ks_up S S1 [531] → S1.2.2 531 = some (kB 1600 (ks_pt (fun j => gs (j)) gd 0 i)) → ks_X l G mX16_seal d 56 [(0, .ref 290), (2, .int (nI i))] [] S1 P := by
  have kD : kO (fun j => gs (j)) := fun j => kgs _
  intro u
  induction u with
  | zero =>
    intro i S1 hi hu e1
    have o1 := hu.at hO (by simp only [List.mem_cons, List.not_mem_nil, or_false]; exact (by decide))
    have s1 := hu.at hs9 (by simp only [List.mem_cons, List.not_mem_nil, or_false]; exact (by decide))
    obtain rfl : i = L := hi
    refine ks_iload_n dX16_seal_56 rfl rfl ?_
    refine ks_aload_n dX16_seal_57 rfl rfl ?_
    refine ks_getf (T := TX16) (kf := 107) kx_2475 rfl in_X16 cl_X16 (by decide) o1 rfl dX16_seal_58 rfl ?_
    refine ks_tv vL ?_
    refine ks_icmp_geN (tgt := 82) (by omega) (by omega) dX16_seal_61 (by decide) rfl (fun h1 => ?_) (fun h1 => absurd h1 (by omega))
    refine ks_sub [(0, _)] rfl ?_
    exact hk S1 hu e1 (kO_pt kD kgd _ _)
  | succ u ih =>
    intro i S1 hi hu e1
    have o1 := hu.at hO (by simp only [List.mem_cons, List.not_mem_nil, or_false]; exact (by decide))
    have s1 := hu.at hs9 (by simp only [List.mem_cons, List.not_mem_nil, or_false]; exact (by decide))
    refine ks_iload_n dX16_seal_56 rfl rfl ?_
    refine ks_aload_n dX16_seal_57 rfl rfl ?_
    refine ks_getf (T := TX16) (kf := 107) kx_2475 rfl in_X16 cl_X16 (by decide) o1 rfl dX16_seal_58 rfl ?_
    refine ks_tv vL ?_
    refine ks_icmp_geN (tgt := 82) (by omega) (by omega) dX16_seal_61 (by decide) rfl (fun h1 => absurd h1 (by omega)) (fun h1 => ?_)
    refine ks_aload_n dX16_seal_64 rfl rfl ?_
    refine ks_getf (T := TX16) (kf := 109) kx_2477 rfl in_X16 cl_X16 (by decide) o1 rfl dX16_seal_65 rfl ?_
    refine ks_iload_n dX16_seal_68 rfl rfl ?_
    refine ks_aload_n dX16_seal_69 rfl rfl ?_
    refine ks_getf (T := TX16) (kf := 106) kx_2474 rfl in_X16 cl_X16 (by decide) o1 rfl dX16_seal_70 rfl ?_
    refine ks_iload_n dX16_seal_73 rfl rfl ?_
    refine ks_baldB (i := i) s1 rfl (by omega) (by decide) dX16_seal_74 rfl ?_
    refine ks_bastB (i := i) (c := gs i) e1 rfl (by omega) (by decide) (ks_by_b (kgs _)) dX16_seal_75 rfl ?_
    refine ks_incN (c := 1) (e := i + 1) dX16_seal_76 rfl (by decide) rfl (by decide) rfl ?_
    refine ks_sub [(2, _), (0, _)] rfl ?_
    refine ks_goto (tgt := 56) dX16_seal_79 (by decide) ?_
    refine ks_sub [(0, _), (2, _)] rfl (ih (i + 1) _ (by omega) (hu.trans (ks_up_set _ _ (List.mem_singleton.mpr rfl))) ?_)
    rw [ks_set_same, ← ks_pt_s]
    rw [Nat.zero_add]
set_option maxRecDepth 100000 in
set_option maxHeartbeats 800000 in
theorem c_mr_seal0 {l : Launch} {G : ks_G} {d : Nat} {S : ks_S} {V : Nat → Value} (hO : S.2.2 290 = some (rfE V)) {T : List Nat} (hB : buX S V 531 1600 110 T) {t : Nat} {dt : Int64} {D : Nat → dTx} (hD : rdS S t D) (v94 : V 94 = .int (nI t)) (v93 : V 93 = .long dt) (hA : asR S) {n q : Nat} {B : Nat → Bk} (v92 : V 92 = .int (nI q)) (hR : rbS S n B) (hq : q < n) (hW : chW n B) (hH : rbH n B) (hhb : bkH (B q) < 2 ^ 30) (h337 : wA S 337 (tg_num 545259519)) (hdb : dueB B q < 2 ^ 32) (hfit : (slM 0 B q dt D t).length ≤ 1600) : ks_P l G yX16_seal mX16_seal (d + 6) [.ref 290, .int (nI 0)] S (fun z S' => z = some (.int (nI (slM 0 B q dt D t).length)) ∧ ∃ V', pbK (531 :: LAz) [107, 110, 111] S S' V V' ∧ V' 111 = .int (nI 0) ∧ asR S' ∧ buX S' V' 531 1600 110 (slF 0 B q dt D t)) := by
  obtain ⟨vT, g, eT, kg, hT, em⟩ := id hB
  have hlF : (slF 0 B q dt D t).length = (slM 0 B q dt D t).length := sNc_len _ _
  obtain ⟨XF, eXF⟩ : ∃ X, X = slF 0 B q dt D t := ⟨_, rfl⟩
  rw [← eXF] at hlF
  rw [← eXF]
  rw [← hlF] at hfit ⊢
  refine ks_of (by decide) rfl rfl (Nat.le_of_ble_eq_true rfl) ?_
  show ks_X l G mX16_seal (d + 6) 0 [(0, .ref 290), (1, .int (nI 0))] [] S _
  refine ks_aload_n dX16_seal_0 rfl rfl ?_
  refine ks_iload_n dX16_seal_1 rfl rfl ?_
  refine ks_if_ltN (tgt := 14) (by decide) dX16_seal_2 (by decide) rfl ?_
  refine ks_iload_n dX16_seal_5 rfl rfl ?_
  refine ks_iconst (x := nI 5) dX16_seal_6 (by decide) rfl ?_
  refine ks_icmp_gtN (tgt := 14) (by decide) (by decide) dX16_seal_7 (by decide) rfl (fun hc7 => ?_) (fun hc7 => ?_)
  · exact absurd hc7 (by decide)
  · refine ks_iconst (x := nI 1) dX16_seal_10 (by decide) rfl ?_
    refine ks_goto (tgt := 15) dX16_seal_11 (by decide) ?_
    refine ks_iconst (x := nI 1) dX16_seal_15 (by decide) rfl ?_
    refine ks_callV (n := 2) (M' := mX16_good) (c_md_good1 hO) hO cl_X16 rfl kx_2734 kx_2736 kxp_127 kx_30 kx_2737 (by decide +kernel) rfl (by decide) (Nat.le_of_ble_eq_true rfl) rfl dX16_seal_16 rfl (fun z16 S16 y16 => ?_)
    obtain ⟨rfl, V16, J16, v16⟩ := y16
    refine ks_if_neN (tgt := 24) (by decide) dX16_seal_19 (by decide) rfl (fun hc19 => ?_) (fun hc19 => ?_)
    · refine ks_aload_n dX16_seal_24 rfl rfl ?_
      refine ks_iload_n dX16_seal_25 rfl rfl ?_
      have nL : ∀ x ∈ ([290] : List Nat), x = 290 := fun x hx => by rw [List.mem_singleton] at hx; exact hx
      refine ks_callV (n := 1) (M' := mX16_assemble) (c_md_asmQ0 J16.2.1 (hD.up J16.1 (fun x hx => by rw [nL x hx]; decide)) ((J16.2.2 94 (by decide)).trans v94) ((J16.2.2 93 (by decide)).trans v93) (hA.up J16.1 (fun x hx => Or.inl (nL x hx))) ((J16.2.2 92 (by decide)).trans v92) (hR.up J16.1 (fun x hx => by rw [nL x hx]; decide)) hq hW hH hhb (h337.up J16.1 (by decide)) hdb) J16.2.1 cl_X16 rfl kx_1963 kx_1965 kxp_55 kx_30 kx_1966 (by decide +kernel) rfl (by decide) (Nat.le_of_ble_eq_true rfl) rfl dX16_seal_26 rfl (fun z2 T2 y2 => ?_)
      obtain ⟨rfl, V2, J2, A2, B2⟩ := y2
      rw [← eXF] at B2
      have hX13 := B2.2.choose_spec.2.2.1
      have K2 : pbK LAz [107, 111] S T2 V V2 := (J16.mono (fun a h => absurd h List.not_mem_nil) (by decide)).trans (J2.mono (fun a h => h) (by decide))
      refine ks_aload_n dX16_seal_29 rfl rfl ?_
      refine ks_aload_n dX16_seal_30 rfl rfl ?_
      refine ks_getf (T := TX16) (kf := 107) kx_2475 rfl in_X16 cl_X16 (by decide) K2.2.1 rfl dX16_seal_31 rfl ?_
      refine ks_tv B2.1 ?_
      refine ks_sipush (x := nI 1600) dX16_seal_34 (by decide) rfl ?_
      refine ks_icmp_gtN (tgt := 44) (by omega) (by decide) dX16_seal_37 (by decide) rfl (fun hc37 => ?_) (fun hc37 => ?_)
      · refine ks_iconst (x := nI 0) dX16_seal_44 (by decide) rfl ?_
        refine ks_iconst (x := nI 2) dX16_seal_45 (by decide) rfl ?_
        omega
      · refine ks_iconst (x := nI 1) dX16_seal_40 (by decide) rfl ?_
        refine ks_goto (tgt := 45) dX16_seal_41 (by decide) ?_
        refine ks_iconst (x := nI 2) dX16_seal_45 (by decide) rfl ?_
        refine ks_callV (n := 2) (M' := mX16_good) (c_md_good1 K2.2.1) K2.2.1 cl_X16 rfl kx_2734 kx_2736 kxp_127 kx_30 kx_2737 (by decide +kernel) rfl (by decide) (Nat.le_of_ble_eq_true rfl) rfl dX16_seal_46 rfl (fun z46 S46 y46 => ?_)
        obtain ⟨rfl, V46, J46, v46⟩ := y46
        have K46 : pbK LAz [107, 111] S S46 V V46 := K2.trans (J46.mono (fun a h => absurd h List.not_mem_nil) (by decide))
        refine ks_if_neN (tgt := 54) (by decide) dX16_seal_49 (by decide) rfl (fun hc49 => ?_) (fun hc49 => ?_)
        · refine ks_iconst (x := nI 0) dX16_seal_54 (by decide) rfl ?_
          refine ks_istore_n dX16_seal_55 (by decide) rfl ?_
          refine ks_sub [(2, _), (0, _), (1, _)] rfl ?_
          obtain ⟨vX, gX, e29, kX, -, emX⟩ := J46.bu B2 (by decide) (by decide)
          have tp := K46.1.at eT (by decide)
          refine ks_sub [(0, _), (2, .int (nI 0))] rfl (l_slCp (gd := g) K46.2.1 e29 kX tp kg (by omega) vX (fun T3 u3 e3 k3 => ?_) XF.length 0 S46 (Nat.zero_add _) (ks_up.rf _ _) (by rw [ks_pt_0]; exact tp))
          have o3 := u3.at K46.2.1 (by decide)
          refine ks_aload_n dX16_seal_82 rfl rfl ?_
          refine ks_aload_n dX16_seal_83 rfl rfl ?_
          refine ks_getf (T := TX16) (kf := 107) kx_2475 rfl in_X16 cl_X16 (by decide) o3 rfl dX16_seal_84 rfl ?_
          refine ks_tv vX ?_
          refine ks_putf (T := TX16) (kf := 110) kx_2478 rfl in_X16 tyX16_ok nmX16 cl_X16 (by decide) o3 (Nat.le_of_ble_eq_true rfl) rfl rfl rfl rfl dX16_seal_87 rfl ?_
          refine md_put mdp_110 ?_
          refine ks_aload_n dX16_seal_90 rfl rfl ?_
          refine ks_getf (T := TX16) (kf := 110) kx_2478 rfl in_X16 cl_X16 (by decide) (ks_set_same _ _ _) rfl dX16_seal_91 rfl ?_
          refine ks_tv (va_up_self _ _ _) ?_
          refine ks_iret rfl dX16_seal_94 ?_
          refine ⟨rfl, va_up V46 110 (.int (nI XF.length)), ⟨((K46.1.mono (fun a h => ?_)).trans (u3.mono (by decide))).trans (ks_up_set _ _ (by decide)), ks_set_same _ _ _, fun k hk => ?_⟩, (va_up_ne _ _ (by decide)).trans v46, ((A2.up J46.1 (fun x hx => Or.inl (nL x hx))).up u3 (fun x hx => Or.inr (by rw [List.mem_singleton] at hx; exact hx))).up (ks_up_set (L := [290]) _ _ (by decide)) (fun x hx => Or.inl (nL x hx)), va_up_self _ _ _, _, (ks_set_ne _ _ (by decide)).trans e3, k3, by omega, ?_⟩
          · rcases List.mem_cons.mp h with rfl | h
            · exact List.mem_cons_self
            · exact List.mem_cons_of_mem _ (List.mem_cons_of_mem _ h)
          · simp only [List.mem_cons, List.not_mem_nil, or_false, not_or] at hk
            rw [va_up_ne _ _ hk.2.1]
            exact K46.2.2 k (by simp only [List.mem_cons, List.not_mem_nil, or_false, not_or]; exact ⟨hk.1, hk.2.2⟩)
          · rw [bytL_pt]
            exact emX
        · exact absurd hc49 (by decide)
    · exact absurd hc19 (by decide)
set_option maxRecDepth 100000 in
set_option maxHeartbeats 800000 in
theorem r_sealF0 {l : Launch} {G : ks_G} {d : Nat} {S : ks_S} {V : Nat → Value} (hO : S.2.2 290 = some (rfE V)) {t : Nat} {dt : Int64} {D : Nat → dTx} (hD : rdS S t D) (v94 : V 94 = .int (nI t)) (v93 : V 93 = .long dt) (hA : asR S) {n q : Nat} {B : Nat → Bk} (v92 : V 92 = .int (nI q)) (hR : rbS S n B) (hq : q < n) (hW : chW n B) (hH : rbH n B) (hhb : bkH (B q) < 2 ^ 30) (h337 : wA S 337 (tg_num 545259519)) (hdb : dueB B q < 2 ^ 32) (hfit : ¬ (slM 0 B q dt D t).length ≤ 1600) : ks_P l G yX16_seal mX16_seal (d + 6) [.ref 290, .int (nI 0)] S (fun z S' => z = some (.int (nI 0)) ∧ ∃ V', pbK LAz [107, 111] S S' V V' ∧ V' 111 = .int (nI 2) ∧ asR S') := by
  have hlF : (slF 0 B q dt D t).length = (slM 0 B q dt D t).length := sNc_len _ _
  obtain ⟨XF, eXF⟩ : ∃ X, X = slF 0 B q dt D t := ⟨_, rfl⟩
  rw [← eXF] at hlF
  rw [← hlF] at hfit
  refine ks_of (by decide) rfl rfl (Nat.le_of_ble_eq_true rfl) ?_
  show ks_X l G mX16_seal (d + 6) 0 [(0, .ref 290), (1, .int (nI 0))] [] S _
  refine ks_aload_n dX16_seal_0 rfl rfl ?_
  refine ks_iload_n dX16_seal_1 rfl rfl ?_
  refine ks_if_ltN (tgt := 14) (by decide) dX16_seal_2 (by decide) rfl ?_
  refine ks_iload_n dX16_seal_5 rfl rfl ?_
  refine ks_iconst (x := nI 5) dX16_seal_6 (by decide) rfl ?_
  refine ks_icmp_gtN (tgt := 14) (by decide) (by decide) dX16_seal_7 (by decide) rfl (fun hc7 => ?_) (fun hc7 => ?_)
  · exact absurd hc7 (by decide)
  · refine ks_iconst (x := nI 1) dX16_seal_10 (by decide) rfl ?_
    refine ks_goto (tgt := 15) dX16_seal_11 (by decide) ?_
    refine ks_iconst (x := nI 1) dX16_seal_15 (by decide) rfl ?_
    refine ks_callV (n := 2) (M' := mX16_good) (c_md_good1 hO) hO cl_X16 rfl kx_2734 kx_2736 kxp_127 kx_30 kx_2737 (by decide +kernel) rfl (by decide) (Nat.le_of_ble_eq_true rfl) rfl dX16_seal_16 rfl (fun z16 S16 y16 => ?_)
    obtain ⟨rfl, V16, J16, v16⟩ := y16
    refine ks_if_neN (tgt := 24) (by decide) dX16_seal_19 (by decide) rfl (fun hc19 => ?_) (fun hc19 => ?_)
    · refine ks_aload_n dX16_seal_24 rfl rfl ?_
      refine ks_iload_n dX16_seal_25 rfl rfl ?_
      have nL : ∀ x ∈ ([290] : List Nat), x = 290 := fun x hx => by rw [List.mem_singleton] at hx; exact hx
      refine ks_callV (n := 1) (M' := mX16_assemble) (c_md_asmQ0 J16.2.1 (hD.up J16.1 (fun x hx => by rw [nL x hx]; decide)) ((J16.2.2 94 (by decide)).trans v94) ((J16.2.2 93 (by decide)).trans v93) (hA.up J16.1 (fun x hx => Or.inl (nL x hx))) ((J16.2.2 92 (by decide)).trans v92) (hR.up J16.1 (fun x hx => by rw [nL x hx]; decide)) hq hW hH hhb (h337.up J16.1 (by decide)) hdb) J16.2.1 cl_X16 rfl kx_1963 kx_1965 kxp_55 kx_30 kx_1966 (by decide +kernel) rfl (by decide) (Nat.le_of_ble_eq_true rfl) rfl dX16_seal_26 rfl (fun z2 T2 y2 => ?_)
      obtain ⟨rfl, V2, J2, A2, B2⟩ := y2
      rw [← eXF] at B2
      have hX13 := B2.2.choose_spec.2.2.1
      have K2 : pbK LAz [107, 111] S T2 V V2 := (J16.mono (fun a h => absurd h List.not_mem_nil) (by decide)).trans (J2.mono (fun a h => h) (by decide))
      refine ks_aload_n dX16_seal_29 rfl rfl ?_
      refine ks_aload_n dX16_seal_30 rfl rfl ?_
      refine ks_getf (T := TX16) (kf := 107) kx_2475 rfl in_X16 cl_X16 (by decide) K2.2.1 rfl dX16_seal_31 rfl ?_
      refine ks_tv B2.1 ?_
      refine ks_sipush (x := nI 1600) dX16_seal_34 (by decide) rfl ?_
      refine ks_icmp_gtN (tgt := 44) (by omega) (by decide) dX16_seal_37 (by decide) rfl (fun hc37 => ?_) (fun hc37 => ?_)
      · refine ks_iconst (x := nI 0) dX16_seal_44 (by decide) rfl ?_
        refine ks_iconst (x := nI 2) dX16_seal_45 (by decide) rfl ?_
        refine ks_callV (n := 2) (M' := mX16_good) (c_md_good0 K2.2.1) K2.2.1 cl_X16 rfl kx_2734 kx_2736 kxp_127 kx_30 kx_2737 (by decide +kernel) rfl (by decide) (Nat.le_of_ble_eq_true rfl) rfl dX16_seal_46 rfl (fun z46 S46 y46 => ?_)
        obtain ⟨rfl, V46, J46, v46⟩ := y46
        have K46 : pbK LAz [107, 111] S S46 V V46 := K2.trans (J46.mono (fun a h => absurd h List.not_mem_nil) (by decide))
        refine ks_if_neN (tgt := 54) (by decide) dX16_seal_49 (by decide) rfl (fun hc49 => ?_) (fun hc49 => ?_)
        · exact absurd hc49 (by decide)
        · refine ks_iconst (x := nI 0) dX16_seal_52 (by decide) rfl ?_
          refine ks_iret rfl dX16_seal_53 ?_
          exact ⟨rfl, V46, K46, v46, A2.up J46.1 (fun x hx => Or.inl (nL x hx))⟩
      · refine ks_iconst (x := nI 1) dX16_seal_40 (by decide) rfl ?_
        refine ks_goto (tgt := 45) dX16_seal_41 (by decide) ?_
        refine ks_iconst (x := nI 2) dX16_seal_45 (by decide) rfl ?_
        omega
    · exact absurd hc19 (by decide)
set_option maxRecDepth 100000 in
set_option maxHeartbeats 800000 in
theorem c_mr_seal1 {l : Launch} {G : ks_G} {d : Nat} {S : ks_S} {V : Nat → Value} (hO : S.2.2 290 = some (rfE V)) {T : List Nat} (hB : buX S V 531 1600 110 T) {t : Nat} {dt : Int64} {D : Nat → dTx} (hD : rdS S t D) (v94 : V 94 = .int (nI t)) (v93 : V 93 = .long dt) (hA : asR S) {n q : Nat} {B : Nat → Bk} (v92 : V 92 = .int (nI q)) (hR : rbS S n B) (hq : q < n) (hW : chW n B) (hH : rbH n B) (hhb : bkH (B q) < 2 ^ 30) (h337 : wA S 337 (tg_num 545259519)) (hdb : dueB B q < 2 ^ 32) (hfit : (slM 1 B q dt D t).length ≤ 1600) : ks_P l G yX16_seal mX16_seal (d + 6) [.ref 290, .int (nI 1)] S (fun z S' => z = some (.int (nI (slM 1 B q dt D t).length)) ∧ ∃ V', pbK (531 :: LAz) [107, 110, 111] S S' V V' ∧ V' 111 = .int (nI 0) ∧ asR S' ∧ buX S' V' 531 1600 110 (slF 1 B q dt D t)) := by
  obtain ⟨vT, g, eT, kg, hT, em⟩ := id hB
  have hlF : (slF 1 B q dt D t).length = (slM 1 B q dt D t).length := sNc_len _ _
  obtain ⟨XF, eXF⟩ : ∃ X, X = slF 1 B q dt D t := ⟨_, rfl⟩
  rw [← eXF] at hlF
  rw [← eXF]
  rw [← hlF] at hfit ⊢
  refine ks_of (by decide) rfl rfl (Nat.le_of_ble_eq_true rfl) ?_
  show ks_X l G mX16_seal (d + 6) 0 [(0, .ref 290), (1, .int (nI 1))] [] S _
  refine ks_aload_n dX16_seal_0 rfl rfl ?_
  refine ks_iload_n dX16_seal_1 rfl rfl ?_
  refine ks_if_ltN (tgt := 14) (by decide) dX16_seal_2 (by decide) rfl ?_
  refine ks_iload_n dX16_seal_5 rfl rfl ?_
  refine ks_iconst (x := nI 5) dX16_seal_6 (by decide) rfl ?_
  refine ks_icmp_gtN (tgt := 14) (by decide) (by decide) dX16_seal_7 (by decide) rfl (fun hc7 => ?_) (fun hc7 => ?_)
  · exact absurd hc7 (by decide)
  · refine ks_iconst (x := nI 1) dX16_seal_10 (by decide) rfl ?_
    refine ks_goto (tgt := 15) dX16_seal_11 (by decide) ?_
    refine ks_iconst (x := nI 1) dX16_seal_15 (by decide) rfl ?_
    refine ks_callV (n := 2) (M' := mX16_good) (c_md_good1 hO) hO cl_X16 rfl kx_2734 kx_2736 kxp_127 kx_30 kx_2737 (by decide +kernel) rfl (by decide) (Nat.le_of_ble_eq_true rfl) rfl dX16_seal_16 rfl (fun z16 S16 y16 => ?_)
    obtain ⟨rfl, V16, J16, v16⟩ := y16
    refine ks_if_neN (tgt := 24) (by decide) dX16_seal_19 (by decide) rfl (fun hc19 => ?_) (fun hc19 => ?_)
    · refine ks_aload_n dX16_seal_24 rfl rfl ?_
      refine ks_iload_n dX16_seal_25 rfl rfl ?_
      have nL : ∀ x ∈ ([290] : List Nat), x = 290 := fun x hx => by rw [List.mem_singleton] at hx; exact hx
      refine ks_callV (n := 1) (M' := mX16_assemble) (c_md_asmQ1 J16.2.1 (hD.up J16.1 (fun x hx => by rw [nL x hx]; decide)) ((J16.2.2 94 (by decide)).trans v94) ((J16.2.2 93 (by decide)).trans v93) (hA.up J16.1 (fun x hx => Or.inl (nL x hx))) ((J16.2.2 92 (by decide)).trans v92) (hR.up J16.1 (fun x hx => by rw [nL x hx]; decide)) hq hW hH hhb (h337.up J16.1 (by decide)) hdb) J16.2.1 cl_X16 rfl kx_1963 kx_1965 kxp_55 kx_30 kx_1966 (by decide +kernel) rfl (by decide) (Nat.le_of_ble_eq_true rfl) rfl dX16_seal_26 rfl (fun z2 T2 y2 => ?_)
      obtain ⟨rfl, V2, J2, A2, B2⟩ := y2
      rw [← eXF] at B2
      have hX13 := B2.2.choose_spec.2.2.1
      have K2 : pbK LAz [107, 111] S T2 V V2 := (J16.mono (fun a h => absurd h List.not_mem_nil) (by decide)).trans (J2.mono (fun a h => h) (by decide))
      refine ks_aload_n dX16_seal_29 rfl rfl ?_
      refine ks_aload_n dX16_seal_30 rfl rfl ?_
      refine ks_getf (T := TX16) (kf := 107) kx_2475 rfl in_X16 cl_X16 (by decide) K2.2.1 rfl dX16_seal_31 rfl ?_
      refine ks_tv B2.1 ?_
      refine ks_sipush (x := nI 1600) dX16_seal_34 (by decide) rfl ?_
      refine ks_icmp_gtN (tgt := 44) (by omega) (by decide) dX16_seal_37 (by decide) rfl (fun hc37 => ?_) (fun hc37 => ?_)
      · refine ks_iconst (x := nI 0) dX16_seal_44 (by decide) rfl ?_
        refine ks_iconst (x := nI 2) dX16_seal_45 (by decide) rfl ?_
        omega
      · refine ks_iconst (x := nI 1) dX16_seal_40 (by decide) rfl ?_
        refine ks_goto (tgt := 45) dX16_seal_41 (by decide) ?_
        refine ks_iconst (x := nI 2) dX16_seal_45 (by decide) rfl ?_
        refine ks_callV (n := 2) (M' := mX16_good) (c_md_good1 K2.2.1) K2.2.1 cl_X16 rfl kx_2734 kx_2736 kxp_127 kx_30 kx_2737 (by decide +kernel) rfl (by decide) (Nat.le_of_ble_eq_true rfl) rfl dX16_seal_46 rfl (fun z46 S46 y46 => ?_)
        obtain ⟨rfl, V46, J46, v46⟩ := y46
        have K46 : pbK LAz [107, 111] S S46 V V46 := K2.trans (J46.mono (fun a h => absurd h List.not_mem_nil) (by decide))
        refine ks_if_neN (tgt := 54) (by decide) dX16_seal_49 (by decide) rfl (fun hc49 => ?_) (fun hc49 => ?_)
        · refine ks_iconst (x := nI 0) dX16_seal_54 (by decide) rfl ?_
          refine ks_istore_n dX16_seal_55 (by decide) rfl ?_
          refine ks_sub [(2, _), (0, _), (1, _)] rfl ?_
          obtain ⟨vX, gX, e29, kX, -, emX⟩ := J46.bu B2 (by decide) (by decide)
          have tp := K46.1.at eT (by decide)
          refine ks_sub [(0, _), (2, .int (nI 0))] rfl (l_slCp (gd := g) K46.2.1 e29 kX tp kg (by omega) vX (fun T3 u3 e3 k3 => ?_) XF.length 0 S46 (Nat.zero_add _) (ks_up.rf _ _) (by rw [ks_pt_0]; exact tp))
          have o3 := u3.at K46.2.1 (by decide)
          refine ks_aload_n dX16_seal_82 rfl rfl ?_
          refine ks_aload_n dX16_seal_83 rfl rfl ?_
          refine ks_getf (T := TX16) (kf := 107) kx_2475 rfl in_X16 cl_X16 (by decide) o3 rfl dX16_seal_84 rfl ?_
          refine ks_tv vX ?_
          refine ks_putf (T := TX16) (kf := 110) kx_2478 rfl in_X16 tyX16_ok nmX16 cl_X16 (by decide) o3 (Nat.le_of_ble_eq_true rfl) rfl rfl rfl rfl dX16_seal_87 rfl ?_
          refine md_put mdp_110 ?_
          refine ks_aload_n dX16_seal_90 rfl rfl ?_
          refine ks_getf (T := TX16) (kf := 110) kx_2478 rfl in_X16 cl_X16 (by decide) (ks_set_same _ _ _) rfl dX16_seal_91 rfl ?_
          refine ks_tv (va_up_self _ _ _) ?_
          refine ks_iret rfl dX16_seal_94 ?_
          refine ⟨rfl, va_up V46 110 (.int (nI XF.length)), ⟨((K46.1.mono (fun a h => ?_)).trans (u3.mono (by decide))).trans (ks_up_set _ _ (by decide)), ks_set_same _ _ _, fun k hk => ?_⟩, (va_up_ne _ _ (by decide)).trans v46, ((A2.up J46.1 (fun x hx => Or.inl (nL x hx))).up u3 (fun x hx => Or.inr (by rw [List.mem_singleton] at hx; exact hx))).up (ks_up_set (L := [290]) _ _ (by decide)) (fun x hx => Or.inl (nL x hx)), va_up_self _ _ _, _, (ks_set_ne _ _ (by decide)).trans e3, k3, by omega, ?_⟩
          · rcases List.mem_cons.mp h with rfl | h
            · exact List.mem_cons_self
            · exact List.mem_cons_of_mem _ (List.mem_cons_of_mem _ h)
          · simp only [List.mem_cons, List.not_mem_nil, or_false, not_or] at hk
            rw [va_up_ne _ _ hk.2.1]
            exact K46.2.2 k (by simp only [List.mem_cons, List.not_mem_nil, or_false, not_or]; exact ⟨hk.1, hk.2.2⟩)
          · rw [bytL_pt]
            exact emX
        · exact absurd hc49 (by decide)
    · exact absurd hc19 (by decide)
set_option maxRecDepth 100000 in
set_option maxHeartbeats 800000 in
theorem r_sealF1 {l : Launch} {G : ks_G} {d : Nat} {S : ks_S} {V : Nat → Value} (hO : S.2.2 290 = some (rfE V)) {t : Nat} {dt : Int64} {D : Nat → dTx} (hD : rdS S t D) (v94 : V 94 = .int (nI t)) (v93 : V 93 = .long dt) (hA : asR S) {n q : Nat} {B : Nat → Bk} (v92 : V 92 = .int (nI q)) (hR : rbS S n B) (hq : q < n) (hW : chW n B) (hH : rbH n B) (hhb : bkH (B q) < 2 ^ 30) (h337 : wA S 337 (tg_num 545259519)) (hdb : dueB B q < 2 ^ 32) (hfit : ¬ (slM 1 B q dt D t).length ≤ 1600) : ks_P l G yX16_seal mX16_seal (d + 6) [.ref 290, .int (nI 1)] S (fun z S' => z = some (.int (nI 0)) ∧ ∃ V', pbK LAz [107, 111] S S' V V' ∧ V' 111 = .int (nI 2) ∧ asR S') := by
  have hlF : (slF 1 B q dt D t).length = (slM 1 B q dt D t).length := sNc_len _ _
  obtain ⟨XF, eXF⟩ : ∃ X, X = slF 1 B q dt D t := ⟨_, rfl⟩
  rw [← eXF] at hlF
  rw [← hlF] at hfit
  refine ks_of (by decide) rfl rfl (Nat.le_of_ble_eq_true rfl) ?_
  show ks_X l G mX16_seal (d + 6) 0 [(0, .ref 290), (1, .int (nI 1))] [] S _
  refine ks_aload_n dX16_seal_0 rfl rfl ?_
  refine ks_iload_n dX16_seal_1 rfl rfl ?_
  refine ks_if_ltN (tgt := 14) (by decide) dX16_seal_2 (by decide) rfl ?_
  refine ks_iload_n dX16_seal_5 rfl rfl ?_
  refine ks_iconst (x := nI 5) dX16_seal_6 (by decide) rfl ?_
  refine ks_icmp_gtN (tgt := 14) (by decide) (by decide) dX16_seal_7 (by decide) rfl (fun hc7 => ?_) (fun hc7 => ?_)
  · exact absurd hc7 (by decide)
  · refine ks_iconst (x := nI 1) dX16_seal_10 (by decide) rfl ?_
    refine ks_goto (tgt := 15) dX16_seal_11 (by decide) ?_
    refine ks_iconst (x := nI 1) dX16_seal_15 (by decide) rfl ?_
    refine ks_callV (n := 2) (M' := mX16_good) (c_md_good1 hO) hO cl_X16 rfl kx_2734 kx_2736 kxp_127 kx_30 kx_2737 (by decide +kernel) rfl (by decide) (Nat.le_of_ble_eq_true rfl) rfl dX16_seal_16 rfl (fun z16 S16 y16 => ?_)
    obtain ⟨rfl, V16, J16, v16⟩ := y16
    refine ks_if_neN (tgt := 24) (by decide) dX16_seal_19 (by decide) rfl (fun hc19 => ?_) (fun hc19 => ?_)
    · refine ks_aload_n dX16_seal_24 rfl rfl ?_
      refine ks_iload_n dX16_seal_25 rfl rfl ?_
      have nL : ∀ x ∈ ([290] : List Nat), x = 290 := fun x hx => by rw [List.mem_singleton] at hx; exact hx
      refine ks_callV (n := 1) (M' := mX16_assemble) (c_md_asmQ1 J16.2.1 (hD.up J16.1 (fun x hx => by rw [nL x hx]; decide)) ((J16.2.2 94 (by decide)).trans v94) ((J16.2.2 93 (by decide)).trans v93) (hA.up J16.1 (fun x hx => Or.inl (nL x hx))) ((J16.2.2 92 (by decide)).trans v92) (hR.up J16.1 (fun x hx => by rw [nL x hx]; decide)) hq hW hH hhb (h337.up J16.1 (by decide)) hdb) J16.2.1 cl_X16 rfl kx_1963 kx_1965 kxp_55 kx_30 kx_1966 (by decide +kernel) rfl (by decide) (Nat.le_of_ble_eq_true rfl) rfl dX16_seal_26 rfl (fun z2 T2 y2 => ?_)
      obtain ⟨rfl, V2, J2, A2, B2⟩ := y2
      rw [← eXF] at B2
      have hX13 := B2.2.choose_spec.2.2.1
      have K2 : pbK LAz [107, 111] S T2 V V2 := (J16.mono (fun a h => absurd h List.not_mem_nil) (by decide)).trans (J2.mono (fun a h => h) (by decide))
      refine ks_aload_n dX16_seal_29 rfl rfl ?_
      refine ks_aload_n dX16_seal_30 rfl rfl ?_
      refine ks_getf (T := TX16) (kf := 107) kx_2475 rfl in_X16 cl_X16 (by decide) K2.2.1 rfl dX16_seal_31 rfl ?_
      refine ks_tv B2.1 ?_
      refine ks_sipush (x := nI 1600) dX16_seal_34 (by decide) rfl ?_
      refine ks_icmp_gtN (tgt := 44) (by omega) (by decide) dX16_seal_37 (by decide) rfl (fun hc37 => ?_) (fun hc37 => ?_)
      · refine ks_iconst (x := nI 0) dX16_seal_44 (by decide) rfl ?_
        refine ks_iconst (x := nI 2) dX16_seal_45 (by decide) rfl ?_
        refine ks_callV (n := 2) (M' := mX16_good) (c_md_good0 K2.2.1) K2.2.1 cl_X16 rfl kx_2734 kx_2736 kxp_127 kx_30 kx_2737 (by decide +kernel) rfl (by decide) (Nat.le_of_ble_eq_true rfl) rfl dX16_seal_46 rfl (fun z46 S46 y46 => ?_)
        obtain ⟨rfl, V46, J46, v46⟩ := y46
        have K46 : pbK LAz [107, 111] S S46 V V46 := K2.trans (J46.mono (fun a h => absurd h List.not_mem_nil) (by decide))
        refine ks_if_neN (tgt := 54) (by decide) dX16_seal_49 (by decide) rfl (fun hc49 => ?_) (fun hc49 => ?_)
        · exact absurd hc49 (by decide)
        · refine ks_iconst (x := nI 0) dX16_seal_52 (by decide) rfl ?_
          refine ks_iret rfl dX16_seal_53 ?_
          exact ⟨rfl, V46, K46, v46, A2.up J46.1 (fun x hx => Or.inl (nL x hx))⟩
      · refine ks_iconst (x := nI 1) dX16_seal_40 (by decide) rfl ?_
        refine ks_goto (tgt := 45) dX16_seal_41 (by decide) ?_
        refine ks_iconst (x := nI 2) dX16_seal_45 (by decide) rfl ?_
        omega
    · exact absurd hc19 (by decide)
set_option maxRecDepth 100000 in
set_option maxHeartbeats 800000 in
theorem c_mr_seal2 {l : Launch} {G : ks_G} {d : Nat} {S : ks_S} {V : Nat → Value} (hO : S.2.2 290 = some (rfE V)) {T : List Nat} (hB : buX S V 531 1600 110 T) {t : Nat} {dt : Int64} {D : Nat → dTx} (hD : rdS S t D) (v94 : V 94 = .int (nI t)) (v93 : V 93 = .long dt) (hA : asR S) {n q : Nat} {B : Nat → Bk} (v92 : V 92 = .int (nI q)) (hR : rbS S n B) (hq : q < n) (hW : chW n B) (hH : rbH n B) (hhb : bkH (B q) < 2 ^ 30) (h337 : wA S 337 (tg_num 545259519)) (hdb : dueB B q < 2 ^ 32) (hfit : (slM 2 B q dt D t).length ≤ 1600) : ks_P l G yX16_seal mX16_seal (d + 6) [.ref 290, .int (nI 2)] S (fun z S' => z = some (.int (nI (slM 2 B q dt D t).length)) ∧ ∃ V', pbK (531 :: LAz) [107, 110, 111] S S' V V' ∧ V' 111 = .int (nI 0) ∧ asR S' ∧ buX S' V' 531 1600 110 (slF 2 B q dt D t)) := by
  obtain ⟨vT, g, eT, kg, hT, em⟩ := id hB
  have hlF : (slF 2 B q dt D t).length = (slM 2 B q dt D t).length := sNc_len _ _
  obtain ⟨XF, eXF⟩ : ∃ X, X = slF 2 B q dt D t := ⟨_, rfl⟩
  rw [← eXF] at hlF
  rw [← eXF]
  rw [← hlF] at hfit ⊢
  refine ks_of (by decide) rfl rfl (Nat.le_of_ble_eq_true rfl) ?_
  show ks_X l G mX16_seal (d + 6) 0 [(0, .ref 290), (1, .int (nI 2))] [] S _
  refine ks_aload_n dX16_seal_0 rfl rfl ?_
  refine ks_iload_n dX16_seal_1 rfl rfl ?_
  refine ks_if_ltN (tgt := 14) (by decide) dX16_seal_2 (by decide) rfl ?_
  refine ks_iload_n dX16_seal_5 rfl rfl ?_
  refine ks_iconst (x := nI 5) dX16_seal_6 (by decide) rfl ?_
  refine ks_icmp_gtN (tgt := 14) (by decide) (by decide) dX16_seal_7 (by decide) rfl (fun hc7 => ?_) (fun hc7 => ?_)
  · exact absurd hc7 (by decide)
  · refine ks_iconst (x := nI 1) dX16_seal_10 (by decide) rfl ?_
    refine ks_goto (tgt := 15) dX16_seal_11 (by decide) ?_
    refine ks_iconst (x := nI 1) dX16_seal_15 (by decide) rfl ?_
    refine ks_callV (n := 2) (M' := mX16_good) (c_md_good1 hO) hO cl_X16 rfl kx_2734 kx_2736 kxp_127 kx_30 kx_2737 (by decide +kernel) rfl (by decide) (Nat.le_of_ble_eq_true rfl) rfl dX16_seal_16 rfl (fun z16 S16 y16 => ?_)
    obtain ⟨rfl, V16, J16, v16⟩ := y16
    refine ks_if_neN (tgt := 24) (by decide) dX16_seal_19 (by decide) rfl (fun hc19 => ?_) (fun hc19 => ?_)
    · refine ks_aload_n dX16_seal_24 rfl rfl ?_
      refine ks_iload_n dX16_seal_25 rfl rfl ?_
      have nL : ∀ x ∈ ([290] : List Nat), x = 290 := fun x hx => by rw [List.mem_singleton] at hx; exact hx
      refine ks_callV (n := 1) (M' := mX16_assemble) (c_md_asmQ2 J16.2.1 (hD.up J16.1 (fun x hx => by rw [nL x hx]; decide)) ((J16.2.2 94 (by decide)).trans v94) ((J16.2.2 93 (by decide)).trans v93) (hA.up J16.1 (fun x hx => Or.inl (nL x hx))) ((J16.2.2 92 (by decide)).trans v92) (hR.up J16.1 (fun x hx => by rw [nL x hx]; decide)) hq hW hH hhb (h337.up J16.1 (by decide)) hdb) J16.2.1 cl_X16 rfl kx_1963 kx_1965 kxp_55 kx_30 kx_1966 (by decide +kernel) rfl (by decide) (Nat.le_of_ble_eq_true rfl) rfl dX16_seal_26 rfl (fun z2 T2 y2 => ?_)
      obtain ⟨rfl, V2, J2, A2, B2⟩ := y2
      rw [← eXF] at B2
      have hX13 := B2.2.choose_spec.2.2.1
      have K2 : pbK LAz [107, 111] S T2 V V2 := (J16.mono (fun a h => absurd h List.not_mem_nil) (by decide)).trans (J2.mono (fun a h => h) (by decide))
      refine ks_aload_n dX16_seal_29 rfl rfl ?_
      refine ks_aload_n dX16_seal_30 rfl rfl ?_
      refine ks_getf (T := TX16) (kf := 107) kx_2475 rfl in_X16 cl_X16 (by decide) K2.2.1 rfl dX16_seal_31 rfl ?_
      refine ks_tv B2.1 ?_
      refine ks_sipush (x := nI 1600) dX16_seal_34 (by decide) rfl ?_
      refine ks_icmp_gtN (tgt := 44) (by omega) (by decide) dX16_seal_37 (by decide) rfl (fun hc37 => ?_) (fun hc37 => ?_)
      · refine ks_iconst (x := nI 0) dX16_seal_44 (by decide) rfl ?_
        refine ks_iconst (x := nI 2) dX16_seal_45 (by decide) rfl ?_
        omega
      · refine ks_iconst (x := nI 1) dX16_seal_40 (by decide) rfl ?_
        refine ks_goto (tgt := 45) dX16_seal_41 (by decide) ?_
        refine ks_iconst (x := nI 2) dX16_seal_45 (by decide) rfl ?_
        refine ks_callV (n := 2) (M' := mX16_good) (c_md_good1 K2.2.1) K2.2.1 cl_X16 rfl kx_2734 kx_2736 kxp_127 kx_30 kx_2737 (by decide +kernel) rfl (by decide) (Nat.le_of_ble_eq_true rfl) rfl dX16_seal_46 rfl (fun z46 S46 y46 => ?_)
        obtain ⟨rfl, V46, J46, v46⟩ := y46
        have K46 : pbK LAz [107, 111] S S46 V V46 := K2.trans (J46.mono (fun a h => absurd h List.not_mem_nil) (by decide))
        refine ks_if_neN (tgt := 54) (by decide) dX16_seal_49 (by decide) rfl (fun hc49 => ?_) (fun hc49 => ?_)
        · refine ks_iconst (x := nI 0) dX16_seal_54 (by decide) rfl ?_
          refine ks_istore_n dX16_seal_55 (by decide) rfl ?_
          refine ks_sub [(2, _), (0, _), (1, _)] rfl ?_
          obtain ⟨vX, gX, e29, kX, -, emX⟩ := J46.bu B2 (by decide) (by decide)
          have tp := K46.1.at eT (by decide)
          refine ks_sub [(0, _), (2, .int (nI 0))] rfl (l_slCp (gd := g) K46.2.1 e29 kX tp kg (by omega) vX (fun T3 u3 e3 k3 => ?_) XF.length 0 S46 (Nat.zero_add _) (ks_up.rf _ _) (by rw [ks_pt_0]; exact tp))
          have o3 := u3.at K46.2.1 (by decide)
          refine ks_aload_n dX16_seal_82 rfl rfl ?_
          refine ks_aload_n dX16_seal_83 rfl rfl ?_
          refine ks_getf (T := TX16) (kf := 107) kx_2475 rfl in_X16 cl_X16 (by decide) o3 rfl dX16_seal_84 rfl ?_
          refine ks_tv vX ?_
          refine ks_putf (T := TX16) (kf := 110) kx_2478 rfl in_X16 tyX16_ok nmX16 cl_X16 (by decide) o3 (Nat.le_of_ble_eq_true rfl) rfl rfl rfl rfl dX16_seal_87 rfl ?_
          refine md_put mdp_110 ?_
          refine ks_aload_n dX16_seal_90 rfl rfl ?_
          refine ks_getf (T := TX16) (kf := 110) kx_2478 rfl in_X16 cl_X16 (by decide) (ks_set_same _ _ _) rfl dX16_seal_91 rfl ?_
          refine ks_tv (va_up_self _ _ _) ?_
          refine ks_iret rfl dX16_seal_94 ?_
          refine ⟨rfl, va_up V46 110 (.int (nI XF.length)), ⟨((K46.1.mono (fun a h => ?_)).trans (u3.mono (by decide))).trans (ks_up_set _ _ (by decide)), ks_set_same _ _ _, fun k hk => ?_⟩, (va_up_ne _ _ (by decide)).trans v46, ((A2.up J46.1 (fun x hx => Or.inl (nL x hx))).up u3 (fun x hx => Or.inr (by rw [List.mem_singleton] at hx; exact hx))).up (ks_up_set (L := [290]) _ _ (by decide)) (fun x hx => Or.inl (nL x hx)), va_up_self _ _ _, _, (ks_set_ne _ _ (by decide)).trans e3, k3, by omega, ?_⟩
          · rcases List.mem_cons.mp h with rfl | h
            · exact List.mem_cons_self
            · exact List.mem_cons_of_mem _ (List.mem_cons_of_mem _ h)
          · simp only [List.mem_cons, List.not_mem_nil, or_false, not_or] at hk
            rw [va_up_ne _ _ hk.2.1]
            exact K46.2.2 k (by simp only [List.mem_cons, List.not_mem_nil, or_false, not_or]; exact ⟨hk.1, hk.2.2⟩)
          · rw [bytL_pt]
            exact emX
        · exact absurd hc49 (by decide)
    · exact absurd hc19 (by decide)
set_option maxRecDepth 100000 in
set_option maxHeartbeats 800000 in
theorem r_sealF2 {l : Launch} {G : ks_G} {d : Nat} {S : ks_S} {V : Nat → Value} (hO : S.2.2 290 = some (rfE V)) {t : Nat} {dt : Int64} {D : Nat → dTx} (hD : rdS S t D) (v94 : V 94 = .int (nI t)) (v93 : V 93 = .long dt) (hA : asR S) {n q : Nat} {B : Nat → Bk} (v92 : V 92 = .int (nI q)) (hR : rbS S n B) (hq : q < n) (hW : chW n B) (hH : rbH n B) (hhb : bkH (B q) < 2 ^ 30) (h337 : wA S 337 (tg_num 545259519)) (hdb : dueB B q < 2 ^ 32) (hfit : ¬ (slM 2 B q dt D t).length ≤ 1600) : ks_P l G yX16_seal mX16_seal (d + 6) [.ref 290, .int (nI 2)] S (fun z S' => z = some (.int (nI 0)) ∧ ∃ V', pbK LAz [107, 111] S S' V V' ∧ V' 111 = .int (nI 2) ∧ asR S') := by
  have hlF : (slF 2 B q dt D t).length = (slM 2 B q dt D t).length := sNc_len _ _
  obtain ⟨XF, eXF⟩ : ∃ X, X = slF 2 B q dt D t := ⟨_, rfl⟩
  rw [← eXF] at hlF
  rw [← hlF] at hfit
  refine ks_of (by decide) rfl rfl (Nat.le_of_ble_eq_true rfl) ?_
  show ks_X l G mX16_seal (d + 6) 0 [(0, .ref 290), (1, .int (nI 2))] [] S _
  refine ks_aload_n dX16_seal_0 rfl rfl ?_
  refine ks_iload_n dX16_seal_1 rfl rfl ?_
  refine ks_if_ltN (tgt := 14) (by decide) dX16_seal_2 (by decide) rfl ?_
  refine ks_iload_n dX16_seal_5 rfl rfl ?_
  refine ks_iconst (x := nI 5) dX16_seal_6 (by decide) rfl ?_
  refine ks_icmp_gtN (tgt := 14) (by decide) (by decide) dX16_seal_7 (by decide) rfl (fun hc7 => ?_) (fun hc7 => ?_)
  · exact absurd hc7 (by decide)
  · refine ks_iconst (x := nI 1) dX16_seal_10 (by decide) rfl ?_
    refine ks_goto (tgt := 15) dX16_seal_11 (by decide) ?_
    refine ks_iconst (x := nI 1) dX16_seal_15 (by decide) rfl ?_
    refine ks_callV (n := 2) (M' := mX16_good) (c_md_good1 hO) hO cl_X16 rfl kx_2734 kx_2736 kxp_127 kx_30 kx_2737 (by decide +kernel) rfl (by decide) (Nat.le_of_ble_eq_true rfl) rfl dX16_seal_16 rfl (fun z16 S16 y16 => ?_)
    obtain ⟨rfl, V16, J16, v16⟩ := y16
    refine ks_if_neN (tgt := 24) (by decide) dX16_seal_19 (by decide) rfl (fun hc19 => ?_) (fun hc19 => ?_)
    · refine ks_aload_n dX16_seal_24 rfl rfl ?_
      refine ks_iload_n dX16_seal_25 rfl rfl ?_
      have nL : ∀ x ∈ ([290] : List Nat), x = 290 := fun x hx => by rw [List.mem_singleton] at hx; exact hx
      refine ks_callV (n := 1) (M' := mX16_assemble) (c_md_asmQ2 J16.2.1 (hD.up J16.1 (fun x hx => by rw [nL x hx]; decide)) ((J16.2.2 94 (by decide)).trans v94) ((J16.2.2 93 (by decide)).trans v93) (hA.up J16.1 (fun x hx => Or.inl (nL x hx))) ((J16.2.2 92 (by decide)).trans v92) (hR.up J16.1 (fun x hx => by rw [nL x hx]; decide)) hq hW hH hhb (h337.up J16.1 (by decide)) hdb) J16.2.1 cl_X16 rfl kx_1963 kx_1965 kxp_55 kx_30 kx_1966 (by decide +kernel) rfl (by decide) (Nat.le_of_ble_eq_true rfl) rfl dX16_seal_26 rfl (fun z2 T2 y2 => ?_)
      obtain ⟨rfl, V2, J2, A2, B2⟩ := y2
      rw [← eXF] at B2
      have hX13 := B2.2.choose_spec.2.2.1
      have K2 : pbK LAz [107, 111] S T2 V V2 := (J16.mono (fun a h => absurd h List.not_mem_nil) (by decide)).trans (J2.mono (fun a h => h) (by decide))
      refine ks_aload_n dX16_seal_29 rfl rfl ?_
      refine ks_aload_n dX16_seal_30 rfl rfl ?_
      refine ks_getf (T := TX16) (kf := 107) kx_2475 rfl in_X16 cl_X16 (by decide) K2.2.1 rfl dX16_seal_31 rfl ?_
      refine ks_tv B2.1 ?_
      refine ks_sipush (x := nI 1600) dX16_seal_34 (by decide) rfl ?_
      refine ks_icmp_gtN (tgt := 44) (by omega) (by decide) dX16_seal_37 (by decide) rfl (fun hc37 => ?_) (fun hc37 => ?_)
      · refine ks_iconst (x := nI 0) dX16_seal_44 (by decide) rfl ?_
        refine ks_iconst (x := nI 2) dX16_seal_45 (by decide) rfl ?_
        refine ks_callV (n := 2) (M' := mX16_good) (c_md_good0 K2.2.1) K2.2.1 cl_X16 rfl kx_2734 kx_2736 kxp_127 kx_30 kx_2737 (by decide +kernel) rfl (by decide) (Nat.le_of_ble_eq_true rfl) rfl dX16_seal_46 rfl (fun z46 S46 y46 => ?_)
        obtain ⟨rfl, V46, J46, v46⟩ := y46
        have K46 : pbK LAz [107, 111] S S46 V V46 := K2.trans (J46.mono (fun a h => absurd h List.not_mem_nil) (by decide))
        refine ks_if_neN (tgt := 54) (by decide) dX16_seal_49 (by decide) rfl (fun hc49 => ?_) (fun hc49 => ?_)
        · exact absurd hc49 (by decide)
        · refine ks_iconst (x := nI 0) dX16_seal_52 (by decide) rfl ?_
          refine ks_iret rfl dX16_seal_53 ?_
          exact ⟨rfl, V46, K46, v46, A2.up J46.1 (fun x hx => Or.inl (nL x hx))⟩
      · refine ks_iconst (x := nI 1) dX16_seal_40 (by decide) rfl ?_
        refine ks_goto (tgt := 45) dX16_seal_41 (by decide) ?_
        refine ks_iconst (x := nI 2) dX16_seal_45 (by decide) rfl ?_
        omega
    · exact absurd hc19 (by decide)
set_option maxRecDepth 100000 in
set_option maxHeartbeats 800000 in
theorem c_mr_seal3 {l : Launch} {G : ks_G} {d : Nat} {S : ks_S} {V : Nat → Value} (hO : S.2.2 290 = some (rfE V)) {T : List Nat} (hB : buX S V 531 1600 110 T) {t : Nat} {dt : Int64} {D : Nat → dTx} (hD : rdS S t D) (v94 : V 94 = .int (nI t)) (v93 : V 93 = .long dt) (hA : asR S) {n q : Nat} {B : Nat → Bk} (v92 : V 92 = .int (nI q)) (hR : rbS S n B) (hq : q < n) (hW : chW n B) (hH : rbH n B) (hhb : bkH (B q) < 2 ^ 30) (h337 : wA S 337 (tg_num 545259519)) (hdb : dueB B q < 2 ^ 32) (hfit : (slM 3 B q dt D t).length ≤ 1600) : ks_P l G yX16_seal mX16_seal (d + 6) [.ref 290, .int (nI 3)] S (fun z S' => z = some (.int (nI (slM 3 B q dt D t).length)) ∧ ∃ V', pbK (531 :: LAz) [107, 110, 111] S S' V V' ∧ V' 111 = .int (nI 0) ∧ asR S' ∧ buX S' V' 531 1600 110 (slF 3 B q dt D t)) := by
  obtain ⟨vT, g, eT, kg, hT, em⟩ := id hB
  have hlF : (slF 3 B q dt D t).length = (slM 3 B q dt D t).length := sNc_len _ _
  obtain ⟨XF, eXF⟩ : ∃ X, X = slF 3 B q dt D t := ⟨_, rfl⟩
  rw [← eXF] at hlF
  rw [← eXF]
  rw [← hlF] at hfit ⊢
  refine ks_of (by decide) rfl rfl (Nat.le_of_ble_eq_true rfl) ?_
  show ks_X l G mX16_seal (d + 6) 0 [(0, .ref 290), (1, .int (nI 3))] [] S _
  refine ks_aload_n dX16_seal_0 rfl rfl ?_
  refine ks_iload_n dX16_seal_1 rfl rfl ?_
  refine ks_if_ltN (tgt := 14) (by decide) dX16_seal_2 (by decide) rfl ?_
  refine ks_iload_n dX16_seal_5 rfl rfl ?_
  refine ks_iconst (x := nI 5) dX16_seal_6 (by decide) rfl ?_
  refine ks_icmp_gtN (tgt := 14) (by decide) (by decide) dX16_seal_7 (by decide) rfl (fun hc7 => ?_) (fun hc7 => ?_)
  · exact absurd hc7 (by decide)
  · refine ks_iconst (x := nI 1) dX16_seal_10 (by decide) rfl ?_
    refine ks_goto (tgt := 15) dX16_seal_11 (by decide) ?_
    refine ks_iconst (x := nI 1) dX16_seal_15 (by decide) rfl ?_
    refine ks_callV (n := 2) (M' := mX16_good) (c_md_good1 hO) hO cl_X16 rfl kx_2734 kx_2736 kxp_127 kx_30 kx_2737 (by decide +kernel) rfl (by decide) (Nat.le_of_ble_eq_true rfl) rfl dX16_seal_16 rfl (fun z16 S16 y16 => ?_)
    obtain ⟨rfl, V16, J16, v16⟩ := y16
    refine ks_if_neN (tgt := 24) (by decide) dX16_seal_19 (by decide) rfl (fun hc19 => ?_) (fun hc19 => ?_)
    · refine ks_aload_n dX16_seal_24 rfl rfl ?_
      refine ks_iload_n dX16_seal_25 rfl rfl ?_
      have nL : ∀ x ∈ ([290] : List Nat), x = 290 := fun x hx => by rw [List.mem_singleton] at hx; exact hx
      refine ks_callV (n := 1) (M' := mX16_assemble) (c_md_asmQ3 J16.2.1 (hD.up J16.1 (fun x hx => by rw [nL x hx]; decide)) ((J16.2.2 94 (by decide)).trans v94) ((J16.2.2 93 (by decide)).trans v93) (hA.up J16.1 (fun x hx => Or.inl (nL x hx))) ((J16.2.2 92 (by decide)).trans v92) (hR.up J16.1 (fun x hx => by rw [nL x hx]; decide)) hq hW hH hhb (h337.up J16.1 (by decide)) hdb) J16.2.1 cl_X16 rfl kx_1963 kx_1965 kxp_55 kx_30 kx_1966 (by decide +kernel) rfl (by decide) (Nat.le_of_ble_eq_true rfl) rfl dX16_seal_26 rfl (fun z2 T2 y2 => ?_)
      obtain ⟨rfl, V2, J2, A2, B2⟩ := y2
      rw [← eXF] at B2
      have hX13 := B2.2.choose_spec.2.2.1
      have K2 : pbK LAz [107, 111] S T2 V V2 := (J16.mono (fun a h => absurd h List.not_mem_nil) (by decide)).trans (J2.mono (fun a h => h) (by decide))
      refine ks_aload_n dX16_seal_29 rfl rfl ?_
      refine ks_aload_n dX16_seal_30 rfl rfl ?_
      refine ks_getf (T := TX16) (kf := 107) kx_2475 rfl in_X16 cl_X16 (by decide) K2.2.1 rfl dX16_seal_31 rfl ?_
      refine ks_tv B2.1 ?_
      refine ks_sipush (x := nI 1600) dX16_seal_34 (by decide) rfl ?_
      refine ks_icmp_gtN (tgt := 44) (by omega) (by decide) dX16_seal_37 (by decide) rfl (fun hc37 => ?_) (fun hc37 => ?_)
      · refine ks_iconst (x := nI 0) dX16_seal_44 (by decide) rfl ?_
        refine ks_iconst (x := nI 2) dX16_seal_45 (by decide) rfl ?_
        omega
      · refine ks_iconst (x := nI 1) dX16_seal_40 (by decide) rfl ?_
        refine ks_goto (tgt := 45) dX16_seal_41 (by decide) ?_
        refine ks_iconst (x := nI 2) dX16_seal_45 (by decide) rfl ?_
        refine ks_callV (n := 2) (M' := mX16_good) (c_md_good1 K2.2.1) K2.2.1 cl_X16 rfl kx_2734 kx_2736 kxp_127 kx_30 kx_2737 (by decide +kernel) rfl (by decide) (Nat.le_of_ble_eq_true rfl) rfl dX16_seal_46 rfl (fun z46 S46 y46 => ?_)
        obtain ⟨rfl, V46, J46, v46⟩ := y46
        have K46 : pbK LAz [107, 111] S S46 V V46 := K2.trans (J46.mono (fun a h => absurd h List.not_mem_nil) (by decide))
        refine ks_if_neN (tgt := 54) (by decide) dX16_seal_49 (by decide) rfl (fun hc49 => ?_) (fun hc49 => ?_)
        · refine ks_iconst (x := nI 0) dX16_seal_54 (by decide) rfl ?_
          refine ks_istore_n dX16_seal_55 (by decide) rfl ?_
          refine ks_sub [(2, _), (0, _), (1, _)] rfl ?_
          obtain ⟨vX, gX, e29, kX, -, emX⟩ := J46.bu B2 (by decide) (by decide)
          have tp := K46.1.at eT (by decide)
          refine ks_sub [(0, _), (2, .int (nI 0))] rfl (l_slCp (gd := g) K46.2.1 e29 kX tp kg (by omega) vX (fun T3 u3 e3 k3 => ?_) XF.length 0 S46 (Nat.zero_add _) (ks_up.rf _ _) (by rw [ks_pt_0]; exact tp))
          have o3 := u3.at K46.2.1 (by decide)
          refine ks_aload_n dX16_seal_82 rfl rfl ?_
          refine ks_aload_n dX16_seal_83 rfl rfl ?_
          refine ks_getf (T := TX16) (kf := 107) kx_2475 rfl in_X16 cl_X16 (by decide) o3 rfl dX16_seal_84 rfl ?_
          refine ks_tv vX ?_
          refine ks_putf (T := TX16) (kf := 110) kx_2478 rfl in_X16 tyX16_ok nmX16 cl_X16 (by decide) o3 (Nat.le_of_ble_eq_true rfl) rfl rfl rfl rfl dX16_seal_87 rfl ?_
          refine md_put mdp_110 ?_
          refine ks_aload_n dX16_seal_90 rfl rfl ?_
          refine ks_getf (T := TX16) (kf := 110) kx_2478 rfl in_X16 cl_X16 (by decide) (ks_set_same _ _ _) rfl dX16_seal_91 rfl ?_
          refine ks_tv (va_up_self _ _ _) ?_
          refine ks_iret rfl dX16_seal_94 ?_
          refine ⟨rfl, va_up V46 110 (.int (nI XF.length)), ⟨((K46.1.mono (fun a h => ?_)).trans (u3.mono (by decide))).trans (ks_up_set _ _ (by decide)), ks_set_same _ _ _, fun k hk => ?_⟩, (va_up_ne _ _ (by decide)).trans v46, ((A2.up J46.1 (fun x hx => Or.inl (nL x hx))).up u3 (fun x hx => Or.inr (by rw [List.mem_singleton] at hx; exact hx))).up (ks_up_set (L := [290]) _ _ (by decide)) (fun x hx => Or.inl (nL x hx)), va_up_self _ _ _, _, (ks_set_ne _ _ (by decide)).trans e3, k3, by omega, ?_⟩
          · rcases List.mem_cons.mp h with rfl | h
            · exact List.mem_cons_self
            · exact List.mem_cons_of_mem _ (List.mem_cons_of_mem _ h)
          · simp only [List.mem_cons, List.not_mem_nil, or_false, not_or] at hk
            rw [va_up_ne _ _ hk.2.1]
            exact K46.2.2 k (by simp only [List.mem_cons, List.not_mem_nil, or_false, not_or]; exact ⟨hk.1, hk.2.2⟩)
          · rw [bytL_pt]
            exact emX
        · exact absurd hc49 (by decide)
    · exact absurd hc19 (by decide)
set_option maxRecDepth 100000 in
set_option maxHeartbeats 800000 in
theorem r_sealF3 {l : Launch} {G : ks_G} {d : Nat} {S : ks_S} {V : Nat → Value} (hO : S.2.2 290 = some (rfE V)) {t : Nat} {dt : Int64} {D : Nat → dTx} (hD : rdS S t D) (v94 : V 94 = .int (nI t)) (v93 : V 93 = .long dt) (hA : asR S) {n q : Nat} {B : Nat → Bk} (v92 : V 92 = .int (nI q)) (hR : rbS S n B) (hq : q < n) (hW : chW n B) (hH : rbH n B) (hhb : bkH (B q) < 2 ^ 30) (h337 : wA S 337 (tg_num 545259519)) (hdb : dueB B q < 2 ^ 32) (hfit : ¬ (slM 3 B q dt D t).length ≤ 1600) : ks_P l G yX16_seal mX16_seal (d + 6) [.ref 290, .int (nI 3)] S (fun z S' => z = some (.int (nI 0)) ∧ ∃ V', pbK LAz [107, 111] S S' V V' ∧ V' 111 = .int (nI 2) ∧ asR S') := by
  have hlF : (slF 3 B q dt D t).length = (slM 3 B q dt D t).length := sNc_len _ _
  obtain ⟨XF, eXF⟩ : ∃ X, X = slF 3 B q dt D t := ⟨_, rfl⟩
  rw [← eXF] at hlF
  rw [← hlF] at hfit
  refine ks_of (by decide) rfl rfl (Nat.le_of_ble_eq_true rfl) ?_
  show ks_X l G mX16_seal (d + 6) 0 [(0, .ref 290), (1, .int (nI 3))] [] S _
  refine ks_aload_n dX16_seal_0 rfl rfl ?_
  refine ks_iload_n dX16_seal_1 rfl rfl ?_
  refine ks_if_ltN (tgt := 14) (by decide) dX16_seal_2 (by decide) rfl ?_
  refine ks_iload_n dX16_seal_5 rfl rfl ?_
  refine ks_iconst (x := nI 5) dX16_seal_6 (by decide) rfl ?_
  refine ks_icmp_gtN (tgt := 14) (by decide) (by decide) dX16_seal_7 (by decide) rfl (fun hc7 => ?_) (fun hc7 => ?_)
  · exact absurd hc7 (by decide)
  · refine ks_iconst (x := nI 1) dX16_seal_10 (by decide) rfl ?_
    refine ks_goto (tgt := 15) dX16_seal_11 (by decide) ?_
    refine ks_iconst (x := nI 1) dX16_seal_15 (by decide) rfl ?_
    refine ks_callV (n := 2) (M' := mX16_good) (c_md_good1 hO) hO cl_X16 rfl kx_2734 kx_2736 kxp_127 kx_30 kx_2737 (by decide +kernel) rfl (by decide) (Nat.le_of_ble_eq_true rfl) rfl dX16_seal_16 rfl (fun z16 S16 y16 => ?_)
    obtain ⟨rfl, V16, J16, v16⟩ := y16
    refine ks_if_neN (tgt := 24) (by decide) dX16_seal_19 (by decide) rfl (fun hc19 => ?_) (fun hc19 => ?_)
    · refine ks_aload_n dX16_seal_24 rfl rfl ?_
      refine ks_iload_n dX16_seal_25 rfl rfl ?_
      have nL : ∀ x ∈ ([290] : List Nat), x = 290 := fun x hx => by rw [List.mem_singleton] at hx; exact hx
      refine ks_callV (n := 1) (M' := mX16_assemble) (c_md_asmQ3 J16.2.1 (hD.up J16.1 (fun x hx => by rw [nL x hx]; decide)) ((J16.2.2 94 (by decide)).trans v94) ((J16.2.2 93 (by decide)).trans v93) (hA.up J16.1 (fun x hx => Or.inl (nL x hx))) ((J16.2.2 92 (by decide)).trans v92) (hR.up J16.1 (fun x hx => by rw [nL x hx]; decide)) hq hW hH hhb (h337.up J16.1 (by decide)) hdb) J16.2.1 cl_X16 rfl kx_1963 kx_1965 kxp_55 kx_30 kx_1966 (by decide +kernel) rfl (by decide) (Nat.le_of_ble_eq_true rfl) rfl dX16_seal_26 rfl (fun z2 T2 y2 => ?_)
      obtain ⟨rfl, V2, J2, A2, B2⟩ := y2
      rw [← eXF] at B2
      have hX13 := B2.2.choose_spec.2.2.1
      have K2 : pbK LAz [107, 111] S T2 V V2 := (J16.mono (fun a h => absurd h List.not_mem_nil) (by decide)).trans (J2.mono (fun a h => h) (by decide))
      refine ks_aload_n dX16_seal_29 rfl rfl ?_
      refine ks_aload_n dX16_seal_30 rfl rfl ?_
      refine ks_getf (T := TX16) (kf := 107) kx_2475 rfl in_X16 cl_X16 (by decide) K2.2.1 rfl dX16_seal_31 rfl ?_
      refine ks_tv B2.1 ?_
      refine ks_sipush (x := nI 1600) dX16_seal_34 (by decide) rfl ?_
      refine ks_icmp_gtN (tgt := 44) (by omega) (by decide) dX16_seal_37 (by decide) rfl (fun hc37 => ?_) (fun hc37 => ?_)
      · refine ks_iconst (x := nI 0) dX16_seal_44 (by decide) rfl ?_
        refine ks_iconst (x := nI 2) dX16_seal_45 (by decide) rfl ?_
        refine ks_callV (n := 2) (M' := mX16_good) (c_md_good0 K2.2.1) K2.2.1 cl_X16 rfl kx_2734 kx_2736 kxp_127 kx_30 kx_2737 (by decide +kernel) rfl (by decide) (Nat.le_of_ble_eq_true rfl) rfl dX16_seal_46 rfl (fun z46 S46 y46 => ?_)
        obtain ⟨rfl, V46, J46, v46⟩ := y46
        have K46 : pbK LAz [107, 111] S S46 V V46 := K2.trans (J46.mono (fun a h => absurd h List.not_mem_nil) (by decide))
        refine ks_if_neN (tgt := 54) (by decide) dX16_seal_49 (by decide) rfl (fun hc49 => ?_) (fun hc49 => ?_)
        · exact absurd hc49 (by decide)
        · refine ks_iconst (x := nI 0) dX16_seal_52 (by decide) rfl ?_
          refine ks_iret rfl dX16_seal_53 ?_
          exact ⟨rfl, V46, K46, v46, A2.up J46.1 (fun x hx => Or.inl (nL x hx))⟩
      · refine ks_iconst (x := nI 1) dX16_seal_40 (by decide) rfl ?_
        refine ks_goto (tgt := 45) dX16_seal_41 (by decide) ?_
        refine ks_iconst (x := nI 2) dX16_seal_45 (by decide) rfl ?_
        omega
    · exact absurd hc19 (by decide)
set_option maxRecDepth 100000 in
set_option maxHeartbeats 800000 in
theorem c_mr_seal4 {l : Launch} {G : ks_G} {d : Nat} {S : ks_S} {V : Nat → Value} (hO : S.2.2 290 = some (rfE V)) {T : List Nat} (hB : buX S V 531 1600 110 T) {t : Nat} {dt : Int64} {D : Nat → dTx} (hD : rdS S t D) (v94 : V 94 = .int (nI t)) (v93 : V 93 = .long dt) (hA : asR S) {n q : Nat} {B : Nat → Bk} (v92 : V 92 = .int (nI q)) (hR : rbS S n B) (hq : q < n) (hW : chW n B) (hH : rbH n B) (hhb : bkH (B q) < 2 ^ 30) (h337 : wA S 337 (tg_num 545259519)) (hdb : dueB B q < 2 ^ 32) (hfit : (slM 4 B q dt D t).length ≤ 1600) : ks_P l G yX16_seal mX16_seal (d + 6) [.ref 290, .int (nI 4)] S (fun z S' => z = some (.int (nI (slM 4 B q dt D t).length)) ∧ ∃ V', pbK (531 :: LAz) [107, 110, 111] S S' V V' ∧ V' 111 = .int (nI 0) ∧ asR S' ∧ buX S' V' 531 1600 110 (slF 4 B q dt D t)) := by
  obtain ⟨vT, g, eT, kg, hT, em⟩ := id hB
  have hlF : (slF 4 B q dt D t).length = (slM 4 B q dt D t).length := sNc_len _ _
  obtain ⟨XF, eXF⟩ : ∃ X, X = slF 4 B q dt D t := ⟨_, rfl⟩
  rw [← eXF] at hlF
  rw [← eXF]
  rw [← hlF] at hfit ⊢
  refine ks_of (by decide) rfl rfl (Nat.le_of_ble_eq_true rfl) ?_
  show ks_X l G mX16_seal (d + 6) 0 [(0, .ref 290), (1, .int (nI 4))] [] S _
  refine ks_aload_n dX16_seal_0 rfl rfl ?_
  refine ks_iload_n dX16_seal_1 rfl rfl ?_
  refine ks_if_ltN (tgt := 14) (by decide) dX16_seal_2 (by decide) rfl ?_
  refine ks_iload_n dX16_seal_5 rfl rfl ?_
  refine ks_iconst (x := nI 5) dX16_seal_6 (by decide) rfl ?_
  refine ks_icmp_gtN (tgt := 14) (by decide) (by decide) dX16_seal_7 (by decide) rfl (fun hc7 => ?_) (fun hc7 => ?_)
  · exact absurd hc7 (by decide)
  · refine ks_iconst (x := nI 1) dX16_seal_10 (by decide) rfl ?_
    refine ks_goto (tgt := 15) dX16_seal_11 (by decide) ?_
    refine ks_iconst (x := nI 1) dX16_seal_15 (by decide) rfl ?_
    refine ks_callV (n := 2) (M' := mX16_good) (c_md_good1 hO) hO cl_X16 rfl kx_2734 kx_2736 kxp_127 kx_30 kx_2737 (by decide +kernel) rfl (by decide) (Nat.le_of_ble_eq_true rfl) rfl dX16_seal_16 rfl (fun z16 S16 y16 => ?_)
    obtain ⟨rfl, V16, J16, v16⟩ := y16
    refine ks_if_neN (tgt := 24) (by decide) dX16_seal_19 (by decide) rfl (fun hc19 => ?_) (fun hc19 => ?_)
    · refine ks_aload_n dX16_seal_24 rfl rfl ?_
      refine ks_iload_n dX16_seal_25 rfl rfl ?_
      have nL : ∀ x ∈ ([290] : List Nat), x = 290 := fun x hx => by rw [List.mem_singleton] at hx; exact hx
      refine ks_callV (n := 1) (M' := mX16_assemble) (c_md_asmQ4 J16.2.1 (hD.up J16.1 (fun x hx => by rw [nL x hx]; decide)) ((J16.2.2 94 (by decide)).trans v94) ((J16.2.2 93 (by decide)).trans v93) (hA.up J16.1 (fun x hx => Or.inl (nL x hx))) ((J16.2.2 92 (by decide)).trans v92) (hR.up J16.1 (fun x hx => by rw [nL x hx]; decide)) hq hW hH hhb (h337.up J16.1 (by decide)) hdb) J16.2.1 cl_X16 rfl kx_1963 kx_1965 kxp_55 kx_30 kx_1966 (by decide +kernel) rfl (by decide) (Nat.le_of_ble_eq_true rfl) rfl dX16_seal_26 rfl (fun z2 T2 y2 => ?_)
      obtain ⟨rfl, V2, J2, A2, B2⟩ := y2
      rw [← eXF] at B2
      have hX13 := B2.2.choose_spec.2.2.1
      have K2 : pbK LAz [107, 111] S T2 V V2 := (J16.mono (fun a h => absurd h List.not_mem_nil) (by decide)).trans (J2.mono (fun a h => h) (by decide))
      refine ks_aload_n dX16_seal_29 rfl rfl ?_
      refine ks_aload_n dX16_seal_30 rfl rfl ?_
      refine ks_getf (T := TX16) (kf := 107) kx_2475 rfl in_X16 cl_X16 (by decide) K2.2.1 rfl dX16_seal_31 rfl ?_
      refine ks_tv B2.1 ?_
      refine ks_sipush (x := nI 1600) dX16_seal_34 (by decide) rfl ?_
      refine ks_icmp_gtN (tgt := 44) (by omega) (by decide) dX16_seal_37 (by decide) rfl (fun hc37 => ?_) (fun hc37 => ?_)
      · refine ks_iconst (x := nI 0) dX16_seal_44 (by decide) rfl ?_
        refine ks_iconst (x := nI 2) dX16_seal_45 (by decide) rfl ?_
        omega
      · refine ks_iconst (x := nI 1) dX16_seal_40 (by decide) rfl ?_
        refine ks_goto (tgt := 45) dX16_seal_41 (by decide) ?_
        refine ks_iconst (x := nI 2) dX16_seal_45 (by decide) rfl ?_
        refine ks_callV (n := 2) (M' := mX16_good) (c_md_good1 K2.2.1) K2.2.1 cl_X16 rfl kx_2734 kx_2736 kxp_127 kx_30 kx_2737 (by decide +kernel) rfl (by decide) (Nat.le_of_ble_eq_true rfl) rfl dX16_seal_46 rfl (fun z46 S46 y46 => ?_)
        obtain ⟨rfl, V46, J46, v46⟩ := y46
        have K46 : pbK LAz [107, 111] S S46 V V46 := K2.trans (J46.mono (fun a h => absurd h List.not_mem_nil) (by decide))
        refine ks_if_neN (tgt := 54) (by decide) dX16_seal_49 (by decide) rfl (fun hc49 => ?_) (fun hc49 => ?_)
        · refine ks_iconst (x := nI 0) dX16_seal_54 (by decide) rfl ?_
          refine ks_istore_n dX16_seal_55 (by decide) rfl ?_
          refine ks_sub [(2, _), (0, _), (1, _)] rfl ?_
          obtain ⟨vX, gX, e29, kX, -, emX⟩ := J46.bu B2 (by decide) (by decide)
          have tp := K46.1.at eT (by decide)
          refine ks_sub [(0, _), (2, .int (nI 0))] rfl (l_slCp (gd := g) K46.2.1 e29 kX tp kg (by omega) vX (fun T3 u3 e3 k3 => ?_) XF.length 0 S46 (Nat.zero_add _) (ks_up.rf _ _) (by rw [ks_pt_0]; exact tp))
          have o3 := u3.at K46.2.1 (by decide)
          refine ks_aload_n dX16_seal_82 rfl rfl ?_
          refine ks_aload_n dX16_seal_83 rfl rfl ?_
          refine ks_getf (T := TX16) (kf := 107) kx_2475 rfl in_X16 cl_X16 (by decide) o3 rfl dX16_seal_84 rfl ?_
          refine ks_tv vX ?_
          refine ks_putf (T := TX16) (kf := 110) kx_2478 rfl in_X16 tyX16_ok nmX16 cl_X16 (by decide) o3 (Nat.le_of_ble_eq_true rfl) rfl rfl rfl rfl dX16_seal_87 rfl ?_
          refine md_put mdp_110 ?_
          refine ks_aload_n dX16_seal_90 rfl rfl ?_
          refine ks_getf (T := TX16) (kf := 110) kx_2478 rfl in_X16 cl_X16 (by decide) (ks_set_same _ _ _) rfl dX16_seal_91 rfl ?_
          refine ks_tv (va_up_self _ _ _) ?_
          refine ks_iret rfl dX16_seal_94 ?_
          refine ⟨rfl, va_up V46 110 (.int (nI XF.length)), ⟨((K46.1.mono (fun a h => ?_)).trans (u3.mono (by decide))).trans (ks_up_set _ _ (by decide)), ks_set_same _ _ _, fun k hk => ?_⟩, (va_up_ne _ _ (by decide)).trans v46, ((A2.up J46.1 (fun x hx => Or.inl (nL x hx))).up u3 (fun x hx => Or.inr (by rw [List.mem_singleton] at hx; exact hx))).up (ks_up_set (L := [290]) _ _ (by decide)) (fun x hx => Or.inl (nL x hx)), va_up_self _ _ _, _, (ks_set_ne _ _ (by decide)).trans e3, k3, by omega, ?_⟩
          · rcases List.mem_cons.mp h with rfl | h
            · exact List.mem_cons_self
            · exact List.mem_cons_of_mem _ (List.mem_cons_of_mem _ h)
          · simp only [List.mem_cons, List.not_mem_nil, or_false, not_or] at hk
            rw [va_up_ne _ _ hk.2.1]
            exact K46.2.2 k (by simp only [List.mem_cons, List.not_mem_nil, or_false, not_or]; exact ⟨hk.1, hk.2.2⟩)
          · rw [bytL_pt]
            exact emX
        · exact absurd hc49 (by decide)
    · exact absurd hc19 (by decide)
set_option maxRecDepth 100000 in
set_option maxHeartbeats 800000 in
theorem r_sealF4 {l : Launch} {G : ks_G} {d : Nat} {S : ks_S} {V : Nat → Value} (hO : S.2.2 290 = some (rfE V)) {t : Nat} {dt : Int64} {D : Nat → dTx} (hD : rdS S t D) (v94 : V 94 = .int (nI t)) (v93 : V 93 = .long dt) (hA : asR S) {n q : Nat} {B : Nat → Bk} (v92 : V 92 = .int (nI q)) (hR : rbS S n B) (hq : q < n) (hW : chW n B) (hH : rbH n B) (hhb : bkH (B q) < 2 ^ 30) (h337 : wA S 337 (tg_num 545259519)) (hdb : dueB B q < 2 ^ 32) (hfit : ¬ (slM 4 B q dt D t).length ≤ 1600) : ks_P l G yX16_seal mX16_seal (d + 6) [.ref 290, .int (nI 4)] S (fun z S' => z = some (.int (nI 0)) ∧ ∃ V', pbK LAz [107, 111] S S' V V' ∧ V' 111 = .int (nI 2) ∧ asR S') := by
  have hlF : (slF 4 B q dt D t).length = (slM 4 B q dt D t).length := sNc_len _ _
  obtain ⟨XF, eXF⟩ : ∃ X, X = slF 4 B q dt D t := ⟨_, rfl⟩
  rw [← eXF] at hlF
  rw [← hlF] at hfit
  refine ks_of (by decide) rfl rfl (Nat.le_of_ble_eq_true rfl) ?_
  show ks_X l G mX16_seal (d + 6) 0 [(0, .ref 290), (1, .int (nI 4))] [] S _
  refine ks_aload_n dX16_seal_0 rfl rfl ?_
  refine ks_iload_n dX16_seal_1 rfl rfl ?_
  refine ks_if_ltN (tgt := 14) (by decide) dX16_seal_2 (by decide) rfl ?_
  refine ks_iload_n dX16_seal_5 rfl rfl ?_
  refine ks_iconst (x := nI 5) dX16_seal_6 (by decide) rfl ?_
  refine ks_icmp_gtN (tgt := 14) (by decide) (by decide) dX16_seal_7 (by decide) rfl (fun hc7 => ?_) (fun hc7 => ?_)
  · exact absurd hc7 (by decide)
  · refine ks_iconst (x := nI 1) dX16_seal_10 (by decide) rfl ?_
    refine ks_goto (tgt := 15) dX16_seal_11 (by decide) ?_
    refine ks_iconst (x := nI 1) dX16_seal_15 (by decide) rfl ?_
    refine ks_callV (n := 2) (M' := mX16_good) (c_md_good1 hO) hO cl_X16 rfl kx_2734 kx_2736 kxp_127 kx_30 kx_2737 (by decide +kernel) rfl (by decide) (Nat.le_of_ble_eq_true rfl) rfl dX16_seal_16 rfl (fun z16 S16 y16 => ?_)
    obtain ⟨rfl, V16, J16, v16⟩ := y16
    refine ks_if_neN (tgt := 24) (by decide) dX16_seal_19 (by decide) rfl (fun hc19 => ?_) (fun hc19 => ?_)
    · refine ks_aload_n dX16_seal_24 rfl rfl ?_
      refine ks_iload_n dX16_seal_25 rfl rfl ?_
      have nL : ∀ x ∈ ([290] : List Nat), x = 290 := fun x hx => by rw [List.mem_singleton] at hx; exact hx
      refine ks_callV (n := 1) (M' := mX16_assemble) (c_md_asmQ4 J16.2.1 (hD.up J16.1 (fun x hx => by rw [nL x hx]; decide)) ((J16.2.2 94 (by decide)).trans v94) ((J16.2.2 93 (by decide)).trans v93) (hA.up J16.1 (fun x hx => Or.inl (nL x hx))) ((J16.2.2 92 (by decide)).trans v92) (hR.up J16.1 (fun x hx => by rw [nL x hx]; decide)) hq hW hH hhb (h337.up J16.1 (by decide)) hdb) J16.2.1 cl_X16 rfl kx_1963 kx_1965 kxp_55 kx_30 kx_1966 (by decide +kernel) rfl (by decide) (Nat.le_of_ble_eq_true rfl) rfl dX16_seal_26 rfl (fun z2 T2 y2 => ?_)
      obtain ⟨rfl, V2, J2, A2, B2⟩ := y2
      rw [← eXF] at B2
      have hX13 := B2.2.choose_spec.2.2.1
      have K2 : pbK LAz [107, 111] S T2 V V2 := (J16.mono (fun a h => absurd h List.not_mem_nil) (by decide)).trans (J2.mono (fun a h => h) (by decide))
      refine ks_aload_n dX16_seal_29 rfl rfl ?_
      refine ks_aload_n dX16_seal_30 rfl rfl ?_
      refine ks_getf (T := TX16) (kf := 107) kx_2475 rfl in_X16 cl_X16 (by decide) K2.2.1 rfl dX16_seal_31 rfl ?_
      refine ks_tv B2.1 ?_
      refine ks_sipush (x := nI 1600) dX16_seal_34 (by decide) rfl ?_
      refine ks_icmp_gtN (tgt := 44) (by omega) (by decide) dX16_seal_37 (by decide) rfl (fun hc37 => ?_) (fun hc37 => ?_)
      · refine ks_iconst (x := nI 0) dX16_seal_44 (by decide) rfl ?_
        refine ks_iconst (x := nI 2) dX16_seal_45 (by decide) rfl ?_
        refine ks_callV (n := 2) (M' := mX16_good) (c_md_good0 K2.2.1) K2.2.1 cl_X16 rfl kx_2734 kx_2736 kxp_127 kx_30 kx_2737 (by decide +kernel) rfl (by decide) (Nat.le_of_ble_eq_true rfl) rfl dX16_seal_46 rfl (fun z46 S46 y46 => ?_)
        obtain ⟨rfl, V46, J46, v46⟩ := y46
        have K46 : pbK LAz [107, 111] S S46 V V46 := K2.trans (J46.mono (fun a h => absurd h List.not_mem_nil) (by decide))
        refine ks_if_neN (tgt := 54) (by decide) dX16_seal_49 (by decide) rfl (fun hc49 => ?_) (fun hc49 => ?_)
        · exact absurd hc49 (by decide)
        · refine ks_iconst (x := nI 0) dX16_seal_52 (by decide) rfl ?_
          refine ks_iret rfl dX16_seal_53 ?_
          exact ⟨rfl, V46, K46, v46, A2.up J46.1 (fun x hx => Or.inl (nL x hx))⟩
      · refine ks_iconst (x := nI 1) dX16_seal_40 (by decide) rfl ?_
        refine ks_goto (tgt := 45) dX16_seal_41 (by decide) ?_
        refine ks_iconst (x := nI 2) dX16_seal_45 (by decide) rfl ?_
        omega
    · exact absurd hc19 (by decide)
set_option maxRecDepth 100000 in
set_option maxHeartbeats 800000 in
theorem c_mr_seal5 {l : Launch} {G : ks_G} {d : Nat} {S : ks_S} {V : Nat → Value} (hO : S.2.2 290 = some (rfE V)) {T : List Nat} (hB : buX S V 531 1600 110 T) {t : Nat} {dt : Int64} {D : Nat → dTx} (hD : rdS S t D) (v94 : V 94 = .int (nI t)) (v93 : V 93 = .long dt) (hA : asR S) {n q : Nat} {B : Nat → Bk} (v92 : V 92 = .int (nI q)) (hR : rbS S n B) (hq : q < n) (hW : chW n B) (hH : rbH n B) (hhb : bkH (B q) < 2 ^ 30) (h337 : wA S 337 (tg_num 545259519)) (hdb : dueB B q < 2 ^ 32) (hfit : (slM 5 B q dt D t).length ≤ 1600) : ks_P l G yX16_seal mX16_seal (d + 6) [.ref 290, .int (nI 5)] S (fun z S' => z = some (.int (nI (slM 5 B q dt D t).length)) ∧ ∃ V', pbK (531 :: LAz) [107, 110, 111] S S' V V' ∧ V' 111 = .int (nI 0) ∧ asR S' ∧ buX S' V' 531 1600 110 (slF 5 B q dt D t)) := by
  obtain ⟨vT, g, eT, kg, hT, em⟩ := id hB
  have hlF : (slF 5 B q dt D t).length = (slM 5 B q dt D t).length := sNc_len _ _
  obtain ⟨XF, eXF⟩ : ∃ X, X = slF 5 B q dt D t := ⟨_, rfl⟩
  rw [← eXF] at hlF
  rw [← eXF]
  rw [← hlF] at hfit ⊢
  refine ks_of (by decide) rfl rfl (Nat.le_of_ble_eq_true rfl) ?_
  show ks_X l G mX16_seal (d + 6) 0 [(0, .ref 290), (1, .int (nI 5))] [] S _
  refine ks_aload_n dX16_seal_0 rfl rfl ?_
  refine ks_iload_n dX16_seal_1 rfl rfl ?_
  refine ks_if_ltN (tgt := 14) (by decide) dX16_seal_2 (by decide) rfl ?_
  refine ks_iload_n dX16_seal_5 rfl rfl ?_
  refine ks_iconst (x := nI 5) dX16_seal_6 (by decide) rfl ?_
  refine ks_icmp_gtN (tgt := 14) (by decide) (by decide) dX16_seal_7 (by decide) rfl (fun hc7 => ?_) (fun hc7 => ?_)
  · exact absurd hc7 (by decide)
  · refine ks_iconst (x := nI 1) dX16_seal_10 (by decide) rfl ?_
    refine ks_goto (tgt := 15) dX16_seal_11 (by decide) ?_
    refine ks_iconst (x := nI 1) dX16_seal_15 (by decide) rfl ?_
    refine ks_callV (n := 2) (M' := mX16_good) (c_md_good1 hO) hO cl_X16 rfl kx_2734 kx_2736 kxp_127 kx_30 kx_2737 (by decide +kernel) rfl (by decide) (Nat.le_of_ble_eq_true rfl) rfl dX16_seal_16 rfl (fun z16 S16 y16 => ?_)
    obtain ⟨rfl, V16, J16, v16⟩ := y16
    refine ks_if_neN (tgt := 24) (by decide) dX16_seal_19 (by decide) rfl (fun hc19 => ?_) (fun hc19 => ?_)
    · refine ks_aload_n dX16_seal_24 rfl rfl ?_
      refine ks_iload_n dX16_seal_25 rfl rfl ?_
      have nL : ∀ x ∈ ([290] : List Nat), x = 290 := fun x hx => by rw [List.mem_singleton] at hx; exact hx
      refine ks_callV (n := 1) (M' := mX16_assemble) (c_md_asmQ5 J16.2.1 (hD.up J16.1 (fun x hx => by rw [nL x hx]; decide)) ((J16.2.2 94 (by decide)).trans v94) ((J16.2.2 93 (by decide)).trans v93) (hA.up J16.1 (fun x hx => Or.inl (nL x hx))) ((J16.2.2 92 (by decide)).trans v92) (hR.up J16.1 (fun x hx => by rw [nL x hx]; decide)) hq hW hH hhb (h337.up J16.1 (by decide)) hdb) J16.2.1 cl_X16 rfl kx_1963 kx_1965 kxp_55 kx_30 kx_1966 (by decide +kernel) rfl (by decide) (Nat.le_of_ble_eq_true rfl) rfl dX16_seal_26 rfl (fun z2 T2 y2 => ?_)
      obtain ⟨rfl, V2, J2, A2, B2⟩ := y2
      rw [← eXF] at B2
      have hX13 := B2.2.choose_spec.2.2.1
      have K2 : pbK LAz [107, 111] S T2 V V2 := (J16.mono (fun a h => absurd h List.not_mem_nil) (by decide)).trans (J2.mono (fun a h => h) (by decide))
      refine ks_aload_n dX16_seal_29 rfl rfl ?_
      refine ks_aload_n dX16_seal_30 rfl rfl ?_
      refine ks_getf (T := TX16) (kf := 107) kx_2475 rfl in_X16 cl_X16 (by decide) K2.2.1 rfl dX16_seal_31 rfl ?_
      refine ks_tv B2.1 ?_
      refine ks_sipush (x := nI 1600) dX16_seal_34 (by decide) rfl ?_
      refine ks_icmp_gtN (tgt := 44) (by omega) (by decide) dX16_seal_37 (by decide) rfl (fun hc37 => ?_) (fun hc37 => ?_)
      · refine ks_iconst (x := nI 0) dX16_seal_44 (by decide) rfl ?_
        refine ks_iconst (x := nI 2) dX16_seal_45 (by decide) rfl ?_
        omega
      · refine ks_iconst (x := nI 1) dX16_seal_40 (by decide) rfl ?_
        refine ks_goto (tgt := 45) dX16_seal_41 (by decide) ?_
        refine ks_iconst (x := nI 2) dX16_seal_45 (by decide) rfl ?_
        refine ks_callV (n := 2) (M' := mX16_good) (c_md_good1 K2.2.1) K2.2.1 cl_X16 rfl kx_2734 kx_2736 kxp_127 kx_30 kx_2737 (by decide +kernel) rfl (by decide) (Nat.le_of_ble_eq_true rfl) rfl dX16_seal_46 rfl (fun z46 S46 y46 => ?_)
        obtain ⟨rfl, V46, J46, v46⟩ := y46
        have K46 : pbK LAz [107, 111] S S46 V V46 := K2.trans (J46.mono (fun a h => absurd h List.not_mem_nil) (by decide))
        refine ks_if_neN (tgt := 54) (by decide) dX16_seal_49 (by decide) rfl (fun hc49 => ?_) (fun hc49 => ?_)
        · refine ks_iconst (x := nI 0) dX16_seal_54 (by decide) rfl ?_
          refine ks_istore_n dX16_seal_55 (by decide) rfl ?_
          refine ks_sub [(2, _), (0, _), (1, _)] rfl ?_
          obtain ⟨vX, gX, e29, kX, -, emX⟩ := J46.bu B2 (by decide) (by decide)
          have tp := K46.1.at eT (by decide)
          refine ks_sub [(0, _), (2, .int (nI 0))] rfl (l_slCp (gd := g) K46.2.1 e29 kX tp kg (by omega) vX (fun T3 u3 e3 k3 => ?_) XF.length 0 S46 (Nat.zero_add _) (ks_up.rf _ _) (by rw [ks_pt_0]; exact tp))
          have o3 := u3.at K46.2.1 (by decide)
          refine ks_aload_n dX16_seal_82 rfl rfl ?_
          refine ks_aload_n dX16_seal_83 rfl rfl ?_
          refine ks_getf (T := TX16) (kf := 107) kx_2475 rfl in_X16 cl_X16 (by decide) o3 rfl dX16_seal_84 rfl ?_
          refine ks_tv vX ?_
          refine ks_putf (T := TX16) (kf := 110) kx_2478 rfl in_X16 tyX16_ok nmX16 cl_X16 (by decide) o3 (Nat.le_of_ble_eq_true rfl) rfl rfl rfl rfl dX16_seal_87 rfl ?_
          refine md_put mdp_110 ?_
          refine ks_aload_n dX16_seal_90 rfl rfl ?_
          refine ks_getf (T := TX16) (kf := 110) kx_2478 rfl in_X16 cl_X16 (by decide) (ks_set_same _ _ _) rfl dX16_seal_91 rfl ?_
          refine ks_tv (va_up_self _ _ _) ?_
          refine ks_iret rfl dX16_seal_94 ?_
          refine ⟨rfl, va_up V46 110 (.int (nI XF.length)), ⟨((K46.1.mono (fun a h => ?_)).trans (u3.mono (by decide))).trans (ks_up_set _ _ (by decide)), ks_set_same _ _ _, fun k hk => ?_⟩, (va_up_ne _ _ (by decide)).trans v46, ((A2.up J46.1 (fun x hx => Or.inl (nL x hx))).up u3 (fun x hx => Or.inr (by rw [List.mem_singleton] at hx; exact hx))).up (ks_up_set (L := [290]) _ _ (by decide)) (fun x hx => Or.inl (nL x hx)), va_up_self _ _ _, _, (ks_set_ne _ _ (by decide)).trans e3, k3, by omega, ?_⟩
          · rcases List.mem_cons.mp h with rfl | h
            · exact List.mem_cons_self
            · exact List.mem_cons_of_mem _ (List.mem_cons_of_mem _ h)
          · simp only [List.mem_cons, List.not_mem_nil, or_false, not_or] at hk
            rw [va_up_ne _ _ hk.2.1]
            exact K46.2.2 k (by simp only [List.mem_cons, List.not_mem_nil, or_false, not_or]; exact ⟨hk.1, hk.2.2⟩)
          · rw [bytL_pt]
            exact emX
        · exact absurd hc49 (by decide)
    · exact absurd hc19 (by decide)
set_option maxRecDepth 100000 in
set_option maxHeartbeats 800000 in
theorem r_sealF5 {l : Launch} {G : ks_G} {d : Nat} {S : ks_S} {V : Nat → Value} (hO : S.2.2 290 = some (rfE V)) {t : Nat} {dt : Int64} {D : Nat → dTx} (hD : rdS S t D) (v94 : V 94 = .int (nI t)) (v93 : V 93 = .long dt) (hA : asR S) {n q : Nat} {B : Nat → Bk} (v92 : V 92 = .int (nI q)) (hR : rbS S n B) (hq : q < n) (hW : chW n B) (hH : rbH n B) (hhb : bkH (B q) < 2 ^ 30) (h337 : wA S 337 (tg_num 545259519)) (hdb : dueB B q < 2 ^ 32) (hfit : ¬ (slM 5 B q dt D t).length ≤ 1600) : ks_P l G yX16_seal mX16_seal (d + 6) [.ref 290, .int (nI 5)] S (fun z S' => z = some (.int (nI 0)) ∧ ∃ V', pbK LAz [107, 111] S S' V V' ∧ V' 111 = .int (nI 2) ∧ asR S') := by
  have hlF : (slF 5 B q dt D t).length = (slM 5 B q dt D t).length := sNc_len _ _
  obtain ⟨XF, eXF⟩ : ∃ X, X = slF 5 B q dt D t := ⟨_, rfl⟩
  rw [← eXF] at hlF
  rw [← hlF] at hfit
  refine ks_of (by decide) rfl rfl (Nat.le_of_ble_eq_true rfl) ?_
  show ks_X l G mX16_seal (d + 6) 0 [(0, .ref 290), (1, .int (nI 5))] [] S _
  refine ks_aload_n dX16_seal_0 rfl rfl ?_
  refine ks_iload_n dX16_seal_1 rfl rfl ?_
  refine ks_if_ltN (tgt := 14) (by decide) dX16_seal_2 (by decide) rfl ?_
  refine ks_iload_n dX16_seal_5 rfl rfl ?_
  refine ks_iconst (x := nI 5) dX16_seal_6 (by decide) rfl ?_
  refine ks_icmp_gtN (tgt := 14) (by decide) (by decide) dX16_seal_7 (by decide) rfl (fun hc7 => ?_) (fun hc7 => ?_)
  · exact absurd hc7 (by decide)
  · refine ks_iconst (x := nI 1) dX16_seal_10 (by decide) rfl ?_
    refine ks_goto (tgt := 15) dX16_seal_11 (by decide) ?_
    refine ks_iconst (x := nI 1) dX16_seal_15 (by decide) rfl ?_
    refine ks_callV (n := 2) (M' := mX16_good) (c_md_good1 hO) hO cl_X16 rfl kx_2734 kx_2736 kxp_127 kx_30 kx_2737 (by decide +kernel) rfl (by decide) (Nat.le_of_ble_eq_true rfl) rfl dX16_seal_16 rfl (fun z16 S16 y16 => ?_)
    obtain ⟨rfl, V16, J16, v16⟩ := y16
    refine ks_if_neN (tgt := 24) (by decide) dX16_seal_19 (by decide) rfl (fun hc19 => ?_) (fun hc19 => ?_)
    · refine ks_aload_n dX16_seal_24 rfl rfl ?_
      refine ks_iload_n dX16_seal_25 rfl rfl ?_
      have nL : ∀ x ∈ ([290] : List Nat), x = 290 := fun x hx => by rw [List.mem_singleton] at hx; exact hx
      refine ks_callV (n := 1) (M' := mX16_assemble) (c_md_asmQ5 J16.2.1 (hD.up J16.1 (fun x hx => by rw [nL x hx]; decide)) ((J16.2.2 94 (by decide)).trans v94) ((J16.2.2 93 (by decide)).trans v93) (hA.up J16.1 (fun x hx => Or.inl (nL x hx))) ((J16.2.2 92 (by decide)).trans v92) (hR.up J16.1 (fun x hx => by rw [nL x hx]; decide)) hq hW hH hhb (h337.up J16.1 (by decide)) hdb) J16.2.1 cl_X16 rfl kx_1963 kx_1965 kxp_55 kx_30 kx_1966 (by decide +kernel) rfl (by decide) (Nat.le_of_ble_eq_true rfl) rfl dX16_seal_26 rfl (fun z2 T2 y2 => ?_)
      obtain ⟨rfl, V2, J2, A2, B2⟩ := y2
      rw [← eXF] at B2
      have hX13 := B2.2.choose_spec.2.2.1
      have K2 : pbK LAz [107, 111] S T2 V V2 := (J16.mono (fun a h => absurd h List.not_mem_nil) (by decide)).trans (J2.mono (fun a h => h) (by decide))
      refine ks_aload_n dX16_seal_29 rfl rfl ?_
      refine ks_aload_n dX16_seal_30 rfl rfl ?_
      refine ks_getf (T := TX16) (kf := 107) kx_2475 rfl in_X16 cl_X16 (by decide) K2.2.1 rfl dX16_seal_31 rfl ?_
      refine ks_tv B2.1 ?_
      refine ks_sipush (x := nI 1600) dX16_seal_34 (by decide) rfl ?_
      refine ks_icmp_gtN (tgt := 44) (by omega) (by decide) dX16_seal_37 (by decide) rfl (fun hc37 => ?_) (fun hc37 => ?_)
      · refine ks_iconst (x := nI 0) dX16_seal_44 (by decide) rfl ?_
        refine ks_iconst (x := nI 2) dX16_seal_45 (by decide) rfl ?_
        refine ks_callV (n := 2) (M' := mX16_good) (c_md_good0 K2.2.1) K2.2.1 cl_X16 rfl kx_2734 kx_2736 kxp_127 kx_30 kx_2737 (by decide +kernel) rfl (by decide) (Nat.le_of_ble_eq_true rfl) rfl dX16_seal_46 rfl (fun z46 S46 y46 => ?_)
        obtain ⟨rfl, V46, J46, v46⟩ := y46
        have K46 : pbK LAz [107, 111] S S46 V V46 := K2.trans (J46.mono (fun a h => absurd h List.not_mem_nil) (by decide))
        refine ks_if_neN (tgt := 54) (by decide) dX16_seal_49 (by decide) rfl (fun hc49 => ?_) (fun hc49 => ?_)
        · exact absurd hc49 (by decide)
        · refine ks_iconst (x := nI 0) dX16_seal_52 (by decide) rfl ?_
          refine ks_iret rfl dX16_seal_53 ?_
          exact ⟨rfl, V46, K46, v46, A2.up J46.1 (fun x hx => Or.inl (nL x hx))⟩
      · refine ks_iconst (x := nI 1) dX16_seal_40 (by decide) rfl ?_
        refine ks_goto (tgt := 45) dX16_seal_41 (by decide) ?_
        refine ks_iconst (x := nI 2) dX16_seal_45 (by decide) rfl ?_
        omega
    · exact absurd hc19 (by decide)

/-! THE REFERENCE: keep, to its end -/
theorem ks_nm {l : Launch} {G : ks_G} {M : ks_M} {d pc : Nat} {lv : List (Nat × Value)} {st : List Value} {S : ks_S} {P : Option Value → ks_S → Prop} (k : ∀ S1, S1 = S → ks_X l G M d pc lv st S1 P) : ks_X l G M d pc lv st S P := k S rfl
def kpE (S S' : ks_S) (V V' : Nat → Value) (n : Nat) (bf : Nat → Option Nat) (M : List Nat) (p h W : Nat) : Prop := (S'.1 = S.1 + 12 ∧ S'.2.1 = S.2.1 + 2114 ∧ nwS S') ∧ (∀ a e, S.2.2 a = some e → a ∉ LKp → S'.2.2 a = some e) ∧ (S'.2.2 290 = some (rfE V') ∧ V' 47 = .int (nI (n + 1)) ∧ ∀ k, k < 36 ∨ (39 < k ∧ k ≠ 47) → V' k = V k) ∧ (mhR S' ∧ ∃ g, kO g ∧ S'.2.2 305 = some (kB 32 g)) ∧ S'.2.2 341 = some (.inl (7, 61, .inr (.inr (.inr (.inr (va_up bf n (some S.1))))))) ∧ rkK S' (S.1, M, p, h, W, false, none) ∧ (∃ a, wA S' 338 a) ∧ (∃ a, wA S' 339 a) ∧ (∃ a, wA S' 340 a) ∧ ∃ a, wA S' 358 a
set_option maxRecDepth 100000 in
set_option maxHeartbeats 1600000 in
theorem l_kpZ {l : Launch} {G : ks_G} {d : Nat} {S : ks_S} {S7 : ks_S} {V V7 : Nat → Value} {n : Nat} {bf : Nat → Option Nat} {M : List Nat} (K : kpI S S7 V V7 n bf M) (hn : nwS S) (hx5 : 565 ≤ S.1) (hr : S.1 + 30 < ks_B) (hn60 : n < 61) (v47 : V 47 = .int (nI n)) (w338 : ∃ a, wA S 338 a) (w339 : ∃ a, wA S 339 a) (w340 : ∃ a, wA S 340 a) (w358 : ∃ a, wA S 358 a) (hT1 : 1 ≤ tg_num (btB M)) (hT2 : tg_num (btB M) < 2 ^ 255) {P9 : Option Value → ks_S → Prop} (hk : ∀ (S8 : ks_S) (V8 : Nat → Value), kpE S S8 V V8 n bf M 0 0 (2 ^ 256 / (tg_num (btB M) + 1)) → P9 none S8) : ks_X l G mX16_keep (d + 5) 106 [(0, .ref 290), (3, .int (nI 0 - 1)), (4, .ref S.1)] [] S7 P9 := by
  obtain ⟨x, hS1⟩ : ∃ x, S.1 = x := ⟨_, rfl⟩
  unfold kpI at K
  rw [hS1] at K hx5 hr ⊢
  obtain ⟨⟨c1, c2, nw7⟩, old7, ⟨o7, hv7⟩, ⟨mh7, g5, k5, h57⟩, h341, X7, pd7, ⟨gh, eh7, kgh, agh⟩, ew7⟩ := K
  have v477 : V7 47 = .int (nI n) := (hv7 47 (by decide)).trans v47
  have hM80 : 80 < M.length := (blk_b pd7.bl).1
  obtain ⟨a8, w8⟩ := w338
  obtain ⟨a9, w9⟩ := w339
  obtain ⟨a0, w0⟩ := w340
  obtain ⟨a1, w1⟩ := w358
  have w87 : wA S7 338 a8 := by
    obtain ⟨g, b1, b2⟩ := w8
    exact ⟨g, old7 _ _ b1 (by decide), b2⟩
  have w97 : wA S7 339 a9 := by
    obtain ⟨g, b1, b2⟩ := w9
    exact ⟨g, old7 _ _ b1 (by decide), b2⟩
  have w07 : wA S7 340 a0 := by
    obtain ⟨g, b1, b2⟩ := w0
    exact ⟨g, old7 _ _ b1 (by decide), b2⟩
  have w17 : wA S7 358 a1 := by
    obtain ⟨g, b1, b2⟩ := w1
    exact ⟨g, old7 _ _ b1 (by decide), b2⟩
  refine ks_aload dX16_keep_106 rfl rfl ?_
  refine ks_iload_n dX16_keep_108 rfl rfl ?_
  refine ks_putN (T := TX12) (kf := 5) kx_2065 rfl in_X12 tyX12_ok nmX12 cl_X12 (by decide) X7 (Nat.le_of_ble_eq_true rfl) rfl rfl rfl rfl dX16_keep_109 rfl ?_
  refine ks_aload dX16_keep_112 rfl rfl ?_
  refine ks_iload_n dX16_keep_114 rfl rfl ?_
  refine ks_if_geD (tgt := 122) (by omega) dX16_keep_115 (by decide) rfl (fun h1 => absurd h1 (by omega)) (fun h1 => ?_)
  refine ks_iconst (x := nI 0) dX16_keep_118 (by decide) rfl ?_
  refine ks_goto (tgt := 133) dX16_keep_119 (by decide) ?_
  refine ks_putN (T := TX12) (kf := 4) kx_2064 rfl in_X12 tyX12_ok nmX12 cl_X12 (by decide) (ks_set_same _ _ _) (Nat.le_of_ble_eq_true rfl) rfl rfl rfl rfl dX16_keep_133 rfl ?_
  refine ks_aload dX16_keep_136 rfl rfl ?_
  refine ks_iconst (x := nI 0) dX16_keep_138 (by decide) rfl ?_
  refine ks_putN (T := TX12) (kf := 6) kx_2066 rfl in_X12 tyX12_ok nmX12 cl_X12 (by decide) (ks_set_same _ _ _) (Nat.le_of_ble_eq_true rfl) rfl rfl rfl rfl dX16_keep_139 rfl ?_
  refine ks_aload dX16_keep_142 rfl rfl ?_
  refine ks_iconst (x := nI 0) dX16_keep_144 (by decide) rfl ?_
  refine ks_putN (T := TX12) (kf := 7) kx_2067 rfl in_X12 tyX12_ok nmX12 cl_X12 (by decide) (ks_set_same _ _ _) (Nat.le_of_ble_eq_true rfl) rfl rfl rfl rfl dX16_keep_145 rfl ?_
  refine ks_aload_n dX16_keep_148 rfl rfl ?_
  refine ks_aload dX16_keep_149 rfl rfl ?_
  refine ks_getN (T := TX12) (kf := 0) kx_2058 rfl in_X12 cl_X12 (by decide) (ks_set_same _ _ _) rfl dX16_keep_151 rfl ?_
  refine ks_bipush (x := nI 72) dX16_keep_154 (by decide) rfl ?_
  refine ks_iconst (x := nI 4) dX16_keep_156 (by decide) rfl ?_
  refine ks_nm (fun S8 e8 => ?_)
  have u8 : ks_up S7 S8 [x] := by
    rw [e8]
    exact ks_upL (ks_upL (ks_upL (ks_up_set _ _ (List.mem_singleton.mpr rfl)) (List.mem_singleton.mpr rfl)) (List.mem_singleton.mpr rfl)) (List.mem_singleton.mpr rfl)
  have X8 : S8.2.2 x = some (.inr (15, [.ref (x + 1), .int (nI M.length), .ref (x + 2), .ref (x + 3), .int (nI 0), .int (nI 0 - 1), .int (ks_bo false), .int (ks_bo false), .ref (x + 11)])) := by
    rw [e8]
    exact ks_set_same _ _ _
  have pd8 := pd7.up u8 (fun z hz => by rw [List.mem_singleton] at hz; omega)
  have n8 : ∀ {a : Nat}, a ≠ x → a ∉ [x] := fun h => by rw [List.mem_singleton]; exact h
  have o8 := u8.at o7 (n8 (by omega))
  clear e8
  refine ks_callV (n := 3) (M' := mX16_number) (c_pd_num pd8 (i := 72) (k := 4) (by omega) (by decide)) o8 cl_X16 rfl kx_2020 kx_2022 kxp_68 kx_30 kx_2023 (by decide +kernel) rfl (by decide) (Nat.le_of_ble_eq_true rfl) rfl dX16_keep_157 rfl (fun z9 T9 y9 => ?_)
  obtain ⟨rfl, rfl⟩ := y9
  refine ks_l2iN dX16_keep_160 rfl ?_
  refine ks_aload_n dX16_keep_161 rfl rfl ?_
  refine ks_getf (T := TX16) (kf := 61) kx_2429 rfl in_X16 cl_X16 (by decide) o8 rfl dX16_keep_162 rfl ?_
  refine ks_callS (n := 2) (M' := mX16_target) (c_md_target (b := ks_num (mg M) 72 4) (ks_num_lt pd7.kO 4 72) (w17.up u8 (n8 (by omega))) (by decide)) kx_1947 kx_1948 kx_30 kx_1949 (by decide +kernel) rfl (by decide) (Nat.le_of_ble_eq_true rfl) rfl dX16_keep_165 rfl (fun z9 S9 y9 => ?_)
  obtain ⟨rfl, u9, w19⟩ := y9
  have n9 : ∀ {a : Nat}, a ≠ 358 → a ∉ [358] := fun h => by rw [List.mem_singleton]; exact h
  refine ks_pop dX16_keep_168 rfl rfl ?_
  refine ks_aload_n dX16_keep_169 rfl rfl ?_
  refine ks_aload_n dX16_keep_170 rfl rfl ?_
  refine ks_getf (T := TX16) (kf := 61) kx_2429 rfl in_X16 cl_X16 (by decide) (u9.at o8 (n9 (by omega))) rfl dX16_keep_171 rfl ?_
  refine ks_aload dX16_keep_174 rfl rfl ?_
  refine ks_getN (T := TX12) (kf := 8) kx_2069 rfl in_X12 cl_X12 (by decide) (u9.at X8 (n9 (by omega))) rfl dX16_keep_176 rfl ?_
  have w7 : ∃ v, wA S7 (x + 11) v := ⟨_, _, ew7, fun _ _ => by decide, rfl⟩
  obtain ⟨v7, w7⟩ := w7
  refine ks_callV (n := 2) (M' := mX16_work) (c_md_work (u9.at o8 (n9 (by omega))) w19 hT1 hT2 ((w7.up u8 (n8 (by omega))).up u9 (n9 (by omega))) ((w87.up u8 (n8 (by omega))).up u9 (n9 (by decide))) ((w97.up u8 (n8 (by omega))).up u9 (n9 (by decide))) ((w07.up u8 (n8 (by omega))).up u9 (n9 (by decide))) (by omega) (by omega) (by omega)) (u9.at o8 (n9 (by omega))) cl_X16 rfl kx_2112 kx_2114 kxp_76 kx_30 kx_2115 (by decide +kernel) rfl (by decide) (Nat.le_of_ble_eq_true rfl) rfl dX16_keep_179 rfl (fun z9 S10 y9 => ?_)
  obtain ⟨rfl, u10, ww, q8, q9, q0⟩ := y9
  have n10 : ∀ {a : Nat}, a ≠ x + 11 → (a < 338 ∨ 340 < a) → a ∉ [338, 339, 340, x + 11] := fun h h2 => by simp only [List.mem_cons, List.not_mem_nil, or_false]; omega
  have f2_18201 := (u10.at (u9.at o8 (n9 (by omega))) (n10 (by omega) (by omega)))
  have f2_18202 := (u10.at (u9.at X8 (n9 (by omega))) (n10 (by omega) (by omega)))
  refine ks_iload_n dX16_keep_182 rfl rfl ?_
  refine ks_if_ltD (tgt := 209) (by omega) dX16_keep_183 (by decide) rfl (fun h2 => ?_) (fun h2 => absurd h2 (by omega))
  have w110 := w19.up u10 (n10 (by omega) (by decide))
  refine ks_aload_n dX16_keep_209 rfl rfl ?_
  refine ks_dup dX16_keep_210 rfl rfl ?_
  refine ks_getf (T := TX16) (kf := 47) kx_2415 rfl in_X16 cl_X16 (by decide) f2_18201 rfl dX16_keep_211 rfl ?_
  refine ks_tv v477 ?_
  refine ks_iconst (x := nI 1) dX16_keep_214 (by decide) rfl ?_
  refine ks_addN dX16_keep_215 rfl ?_
  refine ks_putf (T := TX16) (kf := 47) kx_2415 rfl in_X16 tyX16_ok nmX16 cl_X16 (by decide) f2_18201 (Nat.le_of_ble_eq_true rfl) rfl rfl rfl rfl dX16_keep_216 rfl ?_
  refine md_put mdp_47 ?_
  refine ks_ret rfl dX16_keep_219 ?_
  obtain ⟨S12, e12⟩ : ∃ z, z = ks_set S10 290 (rfE (va_up V7 47 (.int (nI (n + 1))))) := ⟨_, rfl⟩
  have u12 : ks_up S10 S12 [290] := by rw [e12]; exact ks_up_set _ _ (List.mem_singleton.mpr rfl)
  have o12 : S12.2.2 290 = some (rfE (va_up V7 47 (.int (nI (n + 1))))) := by rw [e12]; exact ks_set_same _ _ _
  show P9 none (ks_set S10 290 (rfE (va_up V7 47 (.int (nI (n + 1))))))
  rw [← e12]
  clear e12
  have n12 : ∀ {a : Nat}, a ≠ 290 → a ∉ [290] := fun h => by rw [List.mem_singleton]; exact h
  have ua : ks_up S7 S12 [x, x + 11, 290, 338, 339, 340, 358] := (u8.mono (fun a ha => by simp only [List.mem_cons, List.not_mem_nil, or_false] at ha ⊢; omega)).trans ((u9.mono (fun a ha => by simp only [List.mem_cons, List.not_mem_nil, or_false] at ha ⊢; omega)).trans ((u10.mono (fun a ha => by simp only [List.mem_cons, List.not_mem_nil, or_false] at ha ⊢; omega)).trans ((u12.mono (fun a ha => by simp only [List.mem_cons, List.not_mem_nil, or_false] at ha ⊢; omega)))))
  refine hk S12 (va_up V7 47 (.int (nI (n + 1)))) ?_
  unfold kpE
  rw [hS1]
  have na : ∀ {a : Nat}, a ≠ x → a ≠ x + 11 → a ≠ 290 → (a < 338 ∨ 340 < a) → a ≠ 358 → a ∉ [x, x + 11, 290, 338, 339, 340, 358] := fun h1 h2 h3 h4 h5 hm => by simp only [List.mem_cons, List.not_mem_nil, or_false] at hm; omega
  have X12 : S12.2.2 x = some (.inr (15, [.ref (x + 1), .int (nI M.length), .ref (x + 2), .ref (x + 3), .int (nI 0), .int (nI 0 - 1), .int (ks_bo false), .int (ks_bo false), .ref (x + 11)])) := u12.at (u10.at (u9.at X8 (n9 (by omega))) (n10 (by omega) (by omega))) (n12 (by omega))
  have eh12 : S12.2.2 (x + 2) = some (kB 32 gh) := ua.at eh7 (na (by omega) (by omega) (by omega) (by omega) (by omega))
  refine ⟨⟨by rw [ua.1, c1], by rw [ua.2.1, c2], ?_⟩, fun a e ha hm => ?_, ⟨o12, va_up_self _ _ _, fun k hk9 => (va_up_ne _ _ (by omega)).trans (hv7 k (by omega))⟩, ⟨mh7.up ua (fun z hz => ?_), g5, k5, ua.at h57 (na (by omega) (by omega) (by decide) (by decide) (by decide))⟩, ua.at h341 (na (by omega) (by omega) (by decide) (by decide) (by decide)), ⟨?_, pd7.up ua (fun z hz => ?_), ⟨gh, eh12, kgh, agh⟩, ww.up u12 (n12 (by omega)), hx5, by show x + 12 < ks_B; omega⟩, (let ⟨v, hv⟩ := q8; ⟨v, hv.up u12 (n12 (by decide))⟩), (let ⟨v, hv⟩ := q9; ⟨v, hv.up u12 (n12 (by decide))⟩), (let ⟨v, hv⟩ := q0; ⟨v, hv.up u12 (n12 (by decide))⟩), ⟨_, w110.up u12 (n12 (by decide))⟩⟩
  · exact nw7.up ua (fun a ha => by simp only [List.mem_cons, List.not_mem_nil, or_false] at ha; rw [c1]; omega)
  · have hlt := hn.lt ha
    simp only [LKp, List.mem_cons, List.not_mem_nil, or_false, not_or] at hm
    refine ua.at (old7 a e ha ?_) (na (by omega) (by omega) (by omega) (by omega) (by omega))
    intro h9
    simp only [LKq, List.mem_cons, List.not_mem_nil, or_false] at h9
    omega
  · simp only [List.mem_cons, List.not_mem_nil, or_false] at hz
    omega
  · exact X12
  · simp only [List.mem_cons, List.not_mem_nil, or_false] at hz
    show z ≠ x + 1 ∧ (z < x + 3 ∨ x + 3 + 7 < z)
    omega
set_option maxRecDepth 100000 in
set_option maxHeartbeats 1600000 in
theorem l_kpQ {l : Launch} {G : ks_G} {d : Nat} {S : ks_S} {S7 : ks_S} {V V7 : Nat → Value} {n : Nat} {bf : Nat → Option Nat} {M : List Nat} {q : Nat} {B : Nat → Bk} (hq : q < n) (hbf : bf q = some (bkN (B q))) (hBq : rkK S (B q)) (K : kpI S S7 V V7 n bf M) (hn : nwS S) (hx5 : 565 ≤ S.1) (hr : S.1 + 30 < ks_B) (hn60 : n < 61) (v47 : V 47 = .int (nI n)) (w338 : ∃ a, wA S 338 a) (w339 : ∃ a, wA S 339 a) (w340 : ∃ a, wA S 340 a) (w358 : ∃ a, wA S 358 a) (hT1 : 1 ≤ tg_num (btB M)) (hT2 : tg_num (btB M) < 2 ^ 255) {P9 : Option Value → ks_S → Prop} (hk : ∀ (S8 : ks_S) (V8 : Nat → Value), kpE S S8 V V8 n bf M (q + 1) (bkH (B q) + 1) ((2 ^ 256 / (tg_num (btB M) + 1) + bkW (B q)) % 2 ^ 256) → P9 none S8) : ks_X l G mX16_keep (d + 5) 106 [(0, .ref 290), (3, .int (nI q)), (4, .ref S.1)] [] S7 P9 := by
  obtain ⟨x, hS1⟩ : ∃ x, S.1 = x := ⟨_, rfl⟩
  unfold kpI at K
  rw [hS1] at K hx5 hr ⊢
  obtain ⟨⟨c1, c2, nw7⟩, old7, ⟨o7, hv7⟩, ⟨mh7, g5, k5, h57⟩, h341, X7, pd7, ⟨gh, eh7, kgh, agh⟩, ew7⟩ := K
  have v477 : V7 47 = .int (nI n) := (hv7 47 (by decide)).trans v47
  have hM80 : 80 < M.length := (blk_b pd7.bl).1
  obtain ⟨a8, w8⟩ := w338
  obtain ⟨a9, w9⟩ := w339
  obtain ⟨a0, w0⟩ := w340
  obtain ⟨a1, w1⟩ := w358
  have w87 : wA S7 338 a8 := by
    obtain ⟨g, b1, b2⟩ := w8
    exact ⟨g, old7 _ _ b1 (by decide), b2⟩
  have w97 : wA S7 339 a9 := by
    obtain ⟨g, b1, b2⟩ := w9
    exact ⟨g, old7 _ _ b1 (by decide), b2⟩
  have w07 : wA S7 340 a0 := by
    obtain ⟨g, b1, b2⟩ := w0
    exact ⟨g, old7 _ _ b1 (by decide), b2⟩
  have w17 : wA S7 358 a1 := by
    obtain ⟨g, b1, b2⟩ := w1
    exact ⟨g, old7 _ _ b1 (by decide), b2⟩
  obtain ⟨oq, -, -, wq, hq5, hqB⟩ := hBq
  obtain ⟨Nq, eNq⟩ : ∃ Nq, Nq = bkN (B q) := ⟨_, rfl⟩
  rw [← eNq] at oq wq hq5 hqB hbf
  have hqx : Nq + 11 < x := by
    obtain ⟨g, b1, -⟩ := wq
    have := hn.lt b1
    omega
  have nq : ∀ a, Nq ≤ a → a ∉ LKq := fun a h1 h2 => by
    simp only [LKq, List.mem_cons, List.not_mem_nil, or_false] at h2
    omega
  have oq7 := old7 _ _ oq (nq _ (Nat.le_refl _))
  have wq7 : wA S7 (Nq + 11) (bkW (B q)) := by
    obtain ⟨g, b1, b2⟩ := wq
    exact ⟨g, old7 _ _ b1 (nq _ (by omega)), b2⟩
  have hB341 : va_up bf n (some x) q = some Nq := (va_up_ne _ _ (by omega)).trans hbf
  rw [rkO, ← eNq] at oq7
  refine ks_aload dX16_keep_106 rfl rfl ?_
  refine ks_iload_n dX16_keep_108 rfl rfl ?_
  refine ks_putN (T := TX12) (kf := 5) kx_2065 rfl in_X12 tyX12_ok nmX12 cl_X12 (by decide) X7 (Nat.le_of_ble_eq_true rfl) rfl rfl rfl rfl dX16_keep_109 rfl ?_
  refine ks_aload dX16_keep_112 rfl rfl ?_
  refine ks_iload_n dX16_keep_114 rfl rfl ?_
  refine ks_if_geN (tgt := 122) (by omega) dX16_keep_115 (by decide) ?_
  refine ks_aload_n dX16_keep_122 rfl rfl ?_
  refine ks_getf (T := TX16) (kf := 46) kx_2414 rfl in_X16 cl_X16 (by decide) ((ks_set_ne _ _ (by omega)).trans o7) rfl dX16_keep_123 rfl ?_
  refine ks_iload_n dX16_keep_126 rfl rfl ?_
  refine ks_aaldN (i := q) (b := Nq) (by decide) ((ks_set_ne _ _ (by omega)).trans h341) rfl (by omega) (by decide) hB341 dX16_keep_127 rfl ?_
  refine ks_getN (T := TX12) (kf := 4) kx_2064 rfl in_X12 cl_X12 (by decide) ((ks_set_ne _ _ (Ne.symm (by omega))).trans oq7) rfl dX16_keep_128 rfl ?_
  refine ks_iconst (x := nI 1) dX16_keep_131 (by decide) rfl ?_
  refine ks_addN dX16_keep_132 rfl ?_
  refine ks_putN (T := TX12) (kf := 4) kx_2064 rfl in_X12 tyX12_ok nmX12 cl_X12 (by decide) (ks_set_same _ _ _) (Nat.le_of_ble_eq_true rfl) rfl rfl rfl rfl dX16_keep_133 rfl ?_
  refine ks_aload dX16_keep_136 rfl rfl ?_
  refine ks_iconst (x := nI 0) dX16_keep_138 (by decide) rfl ?_
  refine ks_putN (T := TX12) (kf := 6) kx_2066 rfl in_X12 tyX12_ok nmX12 cl_X12 (by decide) (ks_set_same _ _ _) (Nat.le_of_ble_eq_true rfl) rfl rfl rfl rfl dX16_keep_139 rfl ?_
  refine ks_aload dX16_keep_142 rfl rfl ?_
  refine ks_iconst (x := nI 0) dX16_keep_144 (by decide) rfl ?_
  refine ks_putN (T := TX12) (kf := 7) kx_2067 rfl in_X12 tyX12_ok nmX12 cl_X12 (by decide) (ks_set_same _ _ _) (Nat.le_of_ble_eq_true rfl) rfl rfl rfl rfl dX16_keep_145 rfl ?_
  refine ks_aload_n dX16_keep_148 rfl rfl ?_
  refine ks_aload dX16_keep_149 rfl rfl ?_
  refine ks_getN (T := TX12) (kf := 0) kx_2058 rfl in_X12 cl_X12 (by decide) (ks_set_same _ _ _) rfl dX16_keep_151 rfl ?_
  refine ks_bipush (x := nI 72) dX16_keep_154 (by decide) rfl ?_
  refine ks_iconst (x := nI 4) dX16_keep_156 (by decide) rfl ?_
  refine ks_nm (fun S8 e8 => ?_)
  have u8 : ks_up S7 S8 [x] := by
    rw [e8]
    exact ks_upL (ks_upL (ks_upL (ks_up_set _ _ (List.mem_singleton.mpr rfl)) (List.mem_singleton.mpr rfl)) (List.mem_singleton.mpr rfl)) (List.mem_singleton.mpr rfl)
  have X8 : S8.2.2 x = some (.inr (15, [.ref (x + 1), .int (nI M.length), .ref (x + 2), .ref (x + 3), .int (nI (bkH (B q) + 1)), .int (nI q), .int (ks_bo false), .int (ks_bo false), .ref (x + 11)])) := by
    rw [e8]
    exact ks_set_same _ _ _
  have pd8 := pd7.up u8 (fun z hz => by rw [List.mem_singleton] at hz; omega)
  have n8 : ∀ {a : Nat}, a ≠ x → a ∉ [x] := fun h => by rw [List.mem_singleton]; exact h
  have o8 := u8.at o7 (n8 (by omega))
  clear e8
  have h3418 := u8.at h341 (n8 (by omega))
  have oq8 := u8.at oq7 (n8 (by omega))
  refine ks_callV (n := 3) (M' := mX16_number) (c_pd_num pd8 (i := 72) (k := 4) (by omega) (by decide)) o8 cl_X16 rfl kx_2020 kx_2022 kxp_68 kx_30 kx_2023 (by decide +kernel) rfl (by decide) (Nat.le_of_ble_eq_true rfl) rfl dX16_keep_157 rfl (fun z9 T9 y9 => ?_)
  obtain ⟨rfl, rfl⟩ := y9
  refine ks_l2iN dX16_keep_160 rfl ?_
  refine ks_aload_n dX16_keep_161 rfl rfl ?_
  refine ks_getf (T := TX16) (kf := 61) kx_2429 rfl in_X16 cl_X16 (by decide) o8 rfl dX16_keep_162 rfl ?_
  refine ks_callS (n := 2) (M' := mX16_target) (c_md_target (b := ks_num (mg M) 72 4) (ks_num_lt pd7.kO 4 72) (w17.up u8 (n8 (by omega))) (by decide)) kx_1947 kx_1948 kx_30 kx_1949 (by decide +kernel) rfl (by decide) (Nat.le_of_ble_eq_true rfl) rfl dX16_keep_165 rfl (fun z9 S9 y9 => ?_)
  obtain ⟨rfl, u9, w19⟩ := y9
  have n9 : ∀ {a : Nat}, a ≠ 358 → a ∉ [358] := fun h => by rw [List.mem_singleton]; exact h
  refine ks_pop dX16_keep_168 rfl rfl ?_
  refine ks_aload_n dX16_keep_169 rfl rfl ?_
  refine ks_aload_n dX16_keep_170 rfl rfl ?_
  refine ks_getf (T := TX16) (kf := 61) kx_2429 rfl in_X16 cl_X16 (by decide) (u9.at o8 (n9 (by omega))) rfl dX16_keep_171 rfl ?_
  refine ks_aload dX16_keep_174 rfl rfl ?_
  refine ks_getN (T := TX12) (kf := 8) kx_2069 rfl in_X12 cl_X12 (by decide) (u9.at X8 (n9 (by omega))) rfl dX16_keep_176 rfl ?_
  have w7 : ∃ v, wA S7 (x + 11) v := ⟨_, _, ew7, fun _ _ => by decide, rfl⟩
  obtain ⟨v7, w7⟩ := w7
  refine ks_callV (n := 2) (M' := mX16_work) (c_md_work (u9.at o8 (n9 (by omega))) w19 hT1 hT2 ((w7.up u8 (n8 (by omega))).up u9 (n9 (by omega))) ((w87.up u8 (n8 (by omega))).up u9 (n9 (by decide))) ((w97.up u8 (n8 (by omega))).up u9 (n9 (by decide))) ((w07.up u8 (n8 (by omega))).up u9 (n9 (by decide))) (by omega) (by omega) (by omega)) (u9.at o8 (n9 (by omega))) cl_X16 rfl kx_2112 kx_2114 kxp_76 kx_30 kx_2115 (by decide +kernel) rfl (by decide) (Nat.le_of_ble_eq_true rfl) rfl dX16_keep_179 rfl (fun z9 S10 y9 => ?_)
  obtain ⟨rfl, u10, ww, q8, q9, q0⟩ := y9
  have n10 : ∀ {a : Nat}, a ≠ x + 11 → (a < 338 ∨ 340 < a) → a ∉ [338, 339, 340, x + 11] := fun h h2 => by simp only [List.mem_cons, List.not_mem_nil, or_false]; omega
  have f2_18201 := (u10.at (u9.at o8 (n9 (by omega))) (n10 (by omega) (by omega)))
  have f2_18202 := (u10.at (u9.at X8 (n9 (by omega))) (n10 (by omega) (by omega)))
  have f2_18203 := (u10.at (u9.at h3418 (n9 (by omega))) (n10 (by omega) (by omega)))
  have f2_18204 := (u10.at (u9.at oq8 (n9 (by omega))) (n10 (by omega) (by omega)))
  refine ks_iload_n dX16_keep_182 rfl rfl ?_
  refine ks_if_ltN (tgt := 209) (by omega) dX16_keep_183 (by decide) rfl ?_
  refine ks_aload dX16_keep_186 rfl rfl ?_
  refine ks_getN (T := TX12) (kf := 8) kx_2069 rfl in_X12 cl_X12 (by decide) f2_18202 rfl dX16_keep_188 rfl ?_
  refine ks_aload_n dX16_keep_191 rfl rfl ?_
  refine ks_getf (T := TX16) (kf := 46) kx_2414 rfl in_X16 cl_X16 (by decide) f2_18201 rfl dX16_keep_192 rfl ?_
  refine ks_iload_n dX16_keep_195 rfl rfl ?_
  refine ks_aaldN (i := q) (b := Nq) (by decide) f2_18203 rfl (by omega) (by decide) hB341 dX16_keep_196 rfl ?_
  refine ks_getN (T := TX12) (kf := 8) kx_2069 rfl in_X12 cl_X12 (by decide) f2_18204 rfl dX16_keep_197 rfl ?_
  refine ks_aload dX16_keep_200 rfl rfl ?_
  refine ks_getN (T := TX12) (kf := 8) kx_2069 rfl in_X12 cl_X12 (by decide) f2_18202 rfl dX16_keep_202 rfl ?_
  refine ks_callS (n := 3) (M' := mX15_plus) (c_rg_plus ww (((wq7.up u8 (n8 (by omega))).up u9 (n9 (by omega))).up u10 (n10 (by omega) (by omega))) ww (by omega)) kx_2116 kx_1866 kx_33 kx_1867 (by decide +kernel) rfl (by decide) (Nat.le_of_ble_eq_true rfl) rfl dX16_keep_205 rfl (fun z9 S11 y9 => ?_)
  obtain ⟨rfl, u11, ww1⟩ := y9
  have n11 : ∀ {a : Nat}, a ≠ x + 11 → a ∉ [x + 11] := fun h => by rw [List.mem_singleton]; exact h
  have w110 := (w19.up u10 (n10 (by omega) (by decide))).up u11 (n11 (by omega))
  refine ks_pop2_2 dX16_keep_208 rfl rfl ?_
  refine ks_aload_n dX16_keep_209 rfl rfl ?_
  refine ks_dup dX16_keep_210 rfl rfl ?_
  refine ks_getf (T := TX16) (kf := 47) kx_2415 rfl in_X16 cl_X16 (by decide) (u11.at f2_18201 (n11 (by omega))) rfl dX16_keep_211 rfl ?_
  refine ks_tv v477 ?_
  refine ks_iconst (x := nI 1) dX16_keep_214 (by decide) rfl ?_
  refine ks_addN dX16_keep_215 rfl ?_
  refine ks_putf (T := TX16) (kf := 47) kx_2415 rfl in_X16 tyX16_ok nmX16 cl_X16 (by decide) (u11.at f2_18201 (n11 (by omega))) (Nat.le_of_ble_eq_true rfl) rfl rfl rfl rfl dX16_keep_216 rfl ?_
  refine md_put mdp_47 ?_
  refine ks_ret rfl dX16_keep_219 ?_
  obtain ⟨S12, e12⟩ : ∃ z, z = ks_set S11 290 (rfE (va_up V7 47 (.int (nI (n + 1))))) := ⟨_, rfl⟩
  have u12 : ks_up S11 S12 [290] := by rw [e12]; exact ks_up_set _ _ (List.mem_singleton.mpr rfl)
  have o12 : S12.2.2 290 = some (rfE (va_up V7 47 (.int (nI (n + 1))))) := by rw [e12]; exact ks_set_same _ _ _
  show P9 none (ks_set S11 290 (rfE (va_up V7 47 (.int (nI (n + 1))))))
  rw [← e12]
  clear e12
  have n12 : ∀ {a : Nat}, a ≠ 290 → a ∉ [290] := fun h => by rw [List.mem_singleton]; exact h
  have ua : ks_up S7 S12 [x, x + 11, 290, 338, 339, 340, 358] := (u8.mono (fun a ha => by simp only [List.mem_cons, List.not_mem_nil, or_false] at ha ⊢; omega)).trans ((u9.mono (fun a ha => by simp only [List.mem_cons, List.not_mem_nil, or_false] at ha ⊢; omega)).trans ((u10.mono (fun a ha => by simp only [List.mem_cons, List.not_mem_nil, or_false] at ha ⊢; omega)).trans ((u11.mono (fun a ha => by simp only [List.mem_cons, List.not_mem_nil, or_false] at ha ⊢; omega)).trans (u12.mono (fun a ha => by simp only [List.mem_cons, List.not_mem_nil, or_false] at ha ⊢; omega)))))
  refine hk S12 (va_up V7 47 (.int (nI (n + 1)))) ?_
  unfold kpE
  rw [hS1]
  have na : ∀ {a : Nat}, a ≠ x → a ≠ x + 11 → a ≠ 290 → (a < 338 ∨ 340 < a) → a ≠ 358 → a ∉ [x, x + 11, 290, 338, 339, 340, 358] := fun h1 h2 h3 h4 h5 hm => by simp only [List.mem_cons, List.not_mem_nil, or_false] at hm; omega
  have X12 : S12.2.2 x = some (.inr (15, [.ref (x + 1), .int (nI M.length), .ref (x + 2), .ref (x + 3), .int (nI (bkH (B q) + 1)), .int (nI q), .int (ks_bo false), .int (ks_bo false), .ref (x + 11)])) := u12.at (u11.at (u10.at (u9.at X8 (n9 (by omega))) (n10 (by omega) (by omega))) (n11 (by omega))) (n12 (by omega))
  have eh12 : S12.2.2 (x + 2) = some (kB 32 gh) := ua.at eh7 (na (by omega) (by omega) (by omega) (by omega) (by omega))
  refine ⟨⟨by rw [ua.1, c1], by rw [ua.2.1, c2], ?_⟩, fun a e ha hm => ?_, ⟨o12, va_up_self _ _ _, fun k hk9 => (va_up_ne _ _ (by omega)).trans (hv7 k (by omega))⟩, ⟨mh7.up ua (fun z hz => ?_), g5, k5, ua.at h57 (na (by omega) (by omega) (by decide) (by decide) (by decide))⟩, ua.at h341 (na (by omega) (by omega) (by decide) (by decide) (by decide)), ⟨?_, pd7.up ua (fun z hz => ?_), ⟨gh, eh12, kgh, agh⟩, ww1.up u12 (n12 (by omega)), hx5, by show x + 12 < ks_B; omega⟩, (let ⟨v, hv⟩ := q8; ⟨v, (hv.up u11 (n11 (by omega))).up u12 (n12 (by decide))⟩), (let ⟨v, hv⟩ := q9; ⟨v, (hv.up u11 (n11 (by omega))).up u12 (n12 (by decide))⟩), (let ⟨v, hv⟩ := q0; ⟨v, (hv.up u11 (n11 (by omega))).up u12 (n12 (by decide))⟩), ⟨_, w110.up u12 (n12 (by decide))⟩⟩
  · exact nw7.up ua (fun a ha => by simp only [List.mem_cons, List.not_mem_nil, or_false] at ha; rw [c1]; omega)
  · have hlt := hn.lt ha
    simp only [LKp, List.mem_cons, List.not_mem_nil, or_false, not_or] at hm
    refine ua.at (old7 a e ha ?_) (na (by omega) (by omega) (by omega) (by omega) (by omega))
    intro h9
    simp only [LKq, List.mem_cons, List.not_mem_nil, or_false] at h9
    omega
  · simp only [List.mem_cons, List.not_mem_nil, or_false] at hz
    omega
  · show S12.2.2 x = some (.inr (15, [.ref (x + 1), .int (nI M.length), .ref (x + 2), .ref (x + 3), .int (nI (bkH (B q) + 1)), .int (nI (q + 1) - 1), .int (ks_bo false), .int (ks_bo false), .ref (x + 11)]))
    rw [nI_pred]
    exact X12
  · simp only [List.mem_cons, List.not_mem_nil, or_false] at hz
    show z ≠ x + 1 ∧ (z < x + 3 ∨ x + 3 + 7 < z)
    omega
/-- what keep leaves -/
def kpZ (S S' : ks_S) (V V' : Nat → Value) (n F : Nat) (Gp : Pt) (B : Nat → Bk) (bf : Nat → Option Nat) (M : List Nat) (p h W : Nat) : Prop := kpE S S' V V' n bf M p h W ∧ mqB S' V' F Gp ∧ rbS S' (n + 1) (va_up B n (S.1, M, p, h, W, false, none))
theorem kpZ_of {S S' : ks_S} {V V' : Nat → Value} {n F p h W : Nat} {Gp : Pt} {B : Nat → Bk} {bf : Nat → Option Nat} {M : List Nat} (K : kpE S S' V V' n bf M p h W) (hb : mqB S V F Gp) (hx5 : 565 ≤ S.1) (hr : S.1 + F + 30 < ks_B) (hR : rbS S n B) (hn60 : n < 61) (hn : nwS S) (h341 : S.2.2 341 = some (.inl (7, 61, .inr (.inr (.inr (.inr bf)))))) (w338 : ∃ a, wA S 338 a) (w339 : ∃ a, wA S 339 a) (w340 : ∃ a, wA S 340 a) (w358 : ∃ a, wA S 358 a) : kpZ S S' V V' n F Gp B bf M p h W := by
  refine ⟨K, ?_, ?_⟩
  · obtain ⟨⟨c1, c2, nw⟩, old, ⟨o1, v1, hv⟩, ⟨mh, h5⟩, e341, -, q8, q9, q0, q1⟩ := K
    refine hb.any (L := LKp) old (fun x hx => ?_) (fun x hx => ?_) o1 (fun j hj => hv j ?_) mh h5 nw (by rw [c1]; omega)
    · simp only [LKp, List.mem_cons, List.not_mem_nil, or_false] at hx
      omega
    · obtain ⟨-, -, -, hO, -, ⟨⟨⟨⟨g1, -, m1⟩, ⟨g2, m2⟩, ⟨g3, m3⟩, -, -, ⟨g4, m4⟩⟩, g5, -, m5⟩, -⟩, -⟩ := hb
      obtain ⟨⟨n1, -, k1⟩, ⟨n2, k2⟩, ⟨n3, k3⟩, -, -, ⟨n4, k4⟩⟩ := mh
      obtain ⟨n5, -, k5⟩ := h5
      obtain ⟨b8, f8, x8, -⟩ := w338
      obtain ⟨b9, f9, x9, -⟩ := w339
      obtain ⟨b0, f0, x0, -⟩ := w340
      obtain ⟨b1, f1, x1, -⟩ := w358
      obtain ⟨d8, h8, y8, -⟩ := q8
      obtain ⟨d9, h9, y9, -⟩ := q9
      obtain ⟨d0, h0, y0, -⟩ := q0
      obtain ⟨d1, h1, y1, -⟩ := q1
      simp only [LKp, List.mem_cons, List.not_mem_nil, or_false] at hx
      rcases hx with rfl | rfl | rfl | rfl | rfl | rfl | rfl | rfl | rfl | rfl | rfl
      · exact ⟨fun g h => (by rw [hO] at h; cases h), _, o1, fun g h => (by cases h)⟩
      · exact ⟨fun g h => (by rw [m1] at h; cases h), _, k1, fun g h => (by cases h)⟩
      · exact ⟨fun g h => (by rw [m2] at h; cases h), _, k2, fun g h => (by cases h)⟩
      · exact ⟨fun g h => (by rw [m3] at h; cases h), _, k3, fun g h => (by cases h)⟩
      · exact ⟨fun g h => (by rw [m4] at h; cases h), _, k4, fun g h => (by cases h)⟩
      · exact ⟨fun g h => (by rw [m5] at h; cases h), _, k5, fun g h => (by cases h)⟩
      · exact ⟨fun g h => (by rw [x8] at h; cases h), _, y8, fun g h => (by cases h)⟩
      · exact ⟨fun g h => (by rw [x9] at h; cases h), _, y9, fun g h => (by cases h)⟩
      · exact ⟨fun g h => (by rw [x0] at h; cases h), _, y0, fun g h => (by cases h)⟩
      · exact ⟨fun g h => (by rw [h341] at h; cases h), _, e341, fun g h => (by cases h)⟩
      · exact ⟨fun g h => (by rw [x1] at h; cases h), _, y1, fun g h => (by cases h)⟩
    · simp only [List.mem_cons, List.not_mem_nil, or_false] at hj
      omega
  · obtain ⟨⟨c1, c2, nw⟩, old, -, -, e341, hk9, -⟩ := K
    obtain ⟨⟨bf', h341', hbf⟩, hB, hn61⟩ := hR
    obtain rfl : bf' = bf := by
      rw [h341] at h341'
      cases h341'
      rfl
    refine ⟨⟨_, e341, fun i hi => ?_⟩, fun i hi => ?_, by omega⟩
    · by_cases h : i = n
      · rw [h, va_up_self, va_up_self]
      · rw [va_up_ne _ _ h, va_up_ne _ _ h]
        exact hbf i (by omega)
    · by_cases h : i = n
      · rw [h, va_up_self]
        exact hk9
      · rw [va_up_ne _ _ h]
        have hBi := hB i (by omega)
        have hbd := hBi.2.2.2.2
        have uf : sfK LKp S (S.1, S.2.1, S'.2.2) 0 0 := ⟨⟨rfl, rfl, Nat.le_refl _⟩, fun a e h1 h2 _ => old a e h1 h2⟩
        have h9 : rkK (S.1, S.2.1, S'.2.2) (B i) := hBi.sf uf (fun x hx => by
          simp only [LKp, List.mem_cons, List.not_mem_nil, or_false] at hx
          omega)
        exact h9
set_option maxRecDepth 100000 in
set_option maxHeartbeats 800000 in
theorem c_md_keepZ {l : Launch} {G : ks_G} {d : Nat} {S : ks_S} {V : Nat → Value} {n y N F : Nat} {M : List Nat} {g : Nat → Nat} {B : Nat → Bk} {bf : Nat → Option Nat} {Gp : Pt} (hb : mqB S V F Gp) (hn : nwS S) (hx5 : 565 ≤ S.1) (hr : S.1 + F + 30 < ks_B) (h341 : S.2.2 341 = some (.inl (7, 61, .inr (.inr (.inr (.inr bf)))))) (hR : rbS S n B) (hbn : ∀ i, n ≤ i → bf i = none) (v47 : V 47 = .int (nI n)) (hn60 : n < 61) (hy : S.2.2 y = some (kB N g)) (kg : kO g) (hy5 : y < ks_B) (hML : M.length ≤ 1600 ∧ M.length ≤ N) (hN : N < 2 ^ 28) (hg : ∀ j, j < M.length → g j = mg M j) (hbl : blk_ (mg M) M.length = true) (w338 : ∃ a, wA S 338 a) (w339 : ∃ a, wA S 339 a) (w340 : ∃ a, wA S 340 a) (w358 : ∃ a, wA S 358 a) (hT1 : 1 ≤ tg_num (btB M)) (hT2 : tg_num (btB M) < 2 ^ 255) : ks_P l G yX16_keep mX16_keep (d + 5) [.ref 290, .ref y, .int (nI M.length), .int (nI 0 - 1)] S (fun z S' => z = none ∧ ∃ V', kpZ S S' V V' n F Gp B bf M 0 0 (2 ^ 256 / (tg_num (btB M) + 1))) := by
  refine ks_of (by decide) rfl rfl (Nat.le_of_ble_eq_true rfl) ?_
  obtain ⟨hO, hm9⟩ : S.2.2 290 = some (rfE V) ∧ (mhR S ∧ ∃ g, kO g ∧ S.2.2 305 = some (kB 32 g)) := by
    obtain ⟨-, -, -, hO, -, ⟨h5, -⟩, -⟩ := hb
    exact ⟨hO, h5⟩
  refine l_kpA hO hn hx5 (by omega) h341 (hbn n (Nat.le_refl _)) v47 hn60 hm9 hy kg hy5 hML hN hg hbl (fun S7 V7 K => ?_)
  refine l_kpZ K hn hx5 (by omega) hn60 v47 w338 w339 w340 w358 hT1 hT2 (fun S8 V8 K8 => ⟨rfl, V8, kpZ_of K8 hb hx5 hr hR hn60 hn h341 w338 w339 w340 w358⟩)
set_option maxRecDepth 100000 in
set_option maxHeartbeats 800000 in
theorem c_md_keepQ {l : Launch} {G : ks_G} {d : Nat} {S : ks_S} {V : Nat → Value} {n y N F : Nat} {M : List Nat} {g : Nat → Nat} {B : Nat → Bk} {bf : Nat → Option Nat} {Gp : Pt} (hb : mqB S V F Gp) (hn : nwS S) (hx5 : 565 ≤ S.1) (hr : S.1 + F + 30 < ks_B) (h341 : S.2.2 341 = some (.inl (7, 61, .inr (.inr (.inr (.inr bf)))))) (hR : rbS S n B) (hbn : ∀ i, n ≤ i → bf i = none) (v47 : V 47 = .int (nI n)) (hn60 : n < 61) (hy : S.2.2 y = some (kB N g)) (kg : kO g) (hy5 : y < ks_B) (hML : M.length ≤ 1600 ∧ M.length ≤ N) (hN : N < 2 ^ 28) (hg : ∀ j, j < M.length → g j = mg M j) (hbl : blk_ (mg M) M.length = true) (w338 : ∃ a, wA S 338 a) (w339 : ∃ a, wA S 339 a) (w340 : ∃ a, wA S 340 a) (w358 : ∃ a, wA S 358 a) (hT1 : 1 ≤ tg_num (btB M)) (hT2 : tg_num (btB M) < 2 ^ 255) {q : Nat} (hq : q < n) : ks_P l G yX16_keep mX16_keep (d + 5) [.ref 290, .ref y, .int (nI M.length), .int (nI q)] S (fun z S' => z = none ∧ ∃ V', kpZ S S' V V' n F Gp B bf M (q + 1) (bkH (B q) + 1) ((2 ^ 256 / (tg_num (btB M) + 1) + bkW (B q)) % 2 ^ 256)) := by
  refine ks_of (by decide) rfl rfl (Nat.le_of_ble_eq_true rfl) ?_
  obtain ⟨hO, hm9⟩ : S.2.2 290 = some (rfE V) ∧ (mhR S ∧ ∃ g, kO g ∧ S.2.2 305 = some (kB 32 g)) := by
    obtain ⟨-, -, -, hO, -, ⟨h5, -⟩, -⟩ := hb
    exact ⟨hO, h5⟩
  have hbq : bf q = some (bkN (B q)) := by
    obtain ⟨⟨bf', h341', hbf⟩, -⟩ := hR
    rw [h341] at h341'
    cases h341'
    exact hbf q hq
  refine l_kpA hO hn hx5 (by omega) h341 (hbn n (Nat.le_refl _)) v47 hn60 hm9 hy kg hy5 hML hN hg hbl (fun S7 V7 K => ?_)
  refine l_kpQ (B := B) hq hbq (hR.2.1 q hq) K hn hx5 (by omega) hn60 v47 w338 w339 w340 w358 hT1 hT2 (fun S8 V8 K8 => ⟨rfl, V8, kpZ_of K8 hb hx5 hr hR hn60 hn h341 w338 w339 w340 w358⟩)

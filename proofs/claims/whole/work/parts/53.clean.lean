/-! MACHINE: the code without pushes of signatures -/
def isSg (op : Nat) (dt s : List Nat) : Bool := decide ((if s.length < 76 then op = s.length else op = 76) ∧ dt = s)
def anySg (op : Nat) (dt : List Nat) (sg : List (List Nat)) : Bool := sg.any (isSg op dt)
def clnN : Nat → List (List Nat) → List Nat → List Nat
  | 0, _, c => c
  | f + 1, sg, c => match afL c with
    | none => c
    | some k => (if c.headD 0 = 171 ∨ anySg (c.headD 0) ((c.take k).drop (hdS (c.headD 0))) sg = true then [] else c.take k) ++ clnN f sg (c.drop k)
/-- the code that is signed: without marks, and without pushes of these -/
def cln_ (sg : List (List Nat)) (c : List Nat) : List Nat := clnN c.length sg c
theorem clnN_le : ∀ (f : Nat) (sg : List (List Nat)) (c : List Nat), (clnN f sg c).length ≤ c.length
  | 0, sg, c => Nat.le_refl _
  | f + 1, sg, c => by
    unfold clnN
    cases h : afL c with
    | none => exact Nat.le_refl _
    | some k =>
      have h1 := afL_b h
      have h2 := clnN_le f sg (c.drop k)
      rw [List.length_drop] at h2
      simp only [List.length_append]
      split
      · simp; omega
      · rw [List.length_take]; omega
theorem any_take_succ {p : List Nat → Bool} {xs : List (List Nat)} {a i : Nat} (h : a + i < xs.length) : ((xs.drop a).take (i + 1)).any p = (((xs.drop a).take i).any p || p (xs.getD (a + i) [])) := by
  rw [List.take_add_one, List.any_append, List.getElem?_drop, gD h]
  simp
set_option maxRecDepth 100000 in
set_option maxHeartbeats 2000000 in
theorem c_mc_pushesSignature {l : Launch} {G : ks_G} {d : Nat} {S : ks_S} {inp cy pa pe pb ops opn cl st : Nat} {kT kC sC : Int32} (hM : S.2.2 27 = some (mcO inp cy pa pe pb ops opn cl kT kC (nI st) sC)) {xs ys : List (List Nat)} {u : Nat} (hO : st_ok S xs ys u) {y N pos nx cnt : Nat} {g : Nat → Nat} (hy : S.2.2 y = some (kB N g)) (hg : kO g) (hN : N < 2 ^ 20) (hpn : pos + hdS (g pos) ≤ nx) (hnN : nx ≤ N) (hst : st < xs.length) (hcn : cnt ≤ st + 1) : ks_P l G yX7_pushesSignature mX7_pushesSignature d [.ref 27, .ref y, .int (nI pos), .int (nI nx), .int (nI cnt)] S (fun z S' => z = some (.int (ks_bo (anySg (g pos) (bytL g (pos + hdS (g pos)) (nx - pos - hdS (g pos))) ((xs.drop (xs.length - 1 - st)).take cnt)))) ∧ S' = S) := by
  have bd := hO.bd
  obtain ⟨b1, b2, b3⟩ := hdS_b (g pos)
  obtain ⟨ar, fa, fc, f30, f31, f32, hgr, hel⟩ := hO.rows
  have h76 : ¬ g pos = 76 ∨ hdS (g pos) = 2 := by
    by_cases h : g pos = 76
    · exact Or.inr (by unfold hdS; rw [if_pos h])
    · exact Or.inl h
  have loop : ∀ c i, i + c = cnt → anySg (g pos) (bytL g (pos + hdS (g pos)) (nx - pos - hdS (g pos))) ((xs.drop (xs.length - 1 - st)).take i) = false → ks_X l G mX7_pushesSignature d 3 [(0, .ref 27), (1, .ref y), (2, .int (nI pos)), (3, .int (nI nx)), (4, .int (nI cnt)), (5, .int (nI i))] [] S (fun z S' => z = some (.int (ks_bo (anySg (g pos) (bytL g (pos + hdS (g pos)) (nx - pos - hdS (g pos))) ((xs.drop (xs.length - 1 - st)).take cnt)))) ∧ S' = S) := by
    intro c
    induction c with
    | zero =>
      intro i hi hno
      refine ks_iload dX7_pushesSignature_3 rfl rfl ?_
      refine ks_iload dX7_pushesSignature_5 rfl rfl ?_
      refine ks_icmp_geN (tgt := 162) (by omega) (by omega) dX7_pushesSignature_7 (by decide) rfl (fun h1 => ?_) (fun h1 => ?_)
      · refine ks_iconst (x := nI 0) dX7_pushesSignature_162 (by decide) rfl ?_
        refine ks_zret rfl rfl dX7_pushesSignature_163 ?_
        obtain rfl : i = cnt := by omega
        exact ⟨by rw [hno]; rfl, rfl⟩
      · omega
    | succ c ih =>
      intro i hi hno
      refine ks_iload dX7_pushesSignature_3 rfl rfl ?_
      refine ks_iload dX7_pushesSignature_5 rfl rfl ?_
      refine ks_icmp_geN (tgt := 162) (by omega) (by omega) dX7_pushesSignature_7 (by decide) rfl (fun h1 => ?_) (fun h1 => ?_)
      · omega
      · have hk := hel ((xs.length - 1 - st) + i) (by omega)
        rw [show xs.length - 1 - ((xs.length - 1 - st) + i) = st - i by omega] at hk
        obtain ⟨hx0, hc0, hb0⟩ := hk
        have hn := any_take_succ (p := isSg (g pos) (bytL g (pos + hdS (g pos)) (nx - pos - hdS (g pos)))) (xs := xs) (a := (xs.length - 1 - st)) (i := i) (by omega)
        generalize em : fc (st - i) = m at *
        generalize ea : fa (st - i) = f at *
        have K : ∀ (b : Bool) (hd9 k9 : Nat), (b = true ↔ isSg (g pos) (bytL g (pos + hdS (g pos)) (nx - pos - hdS (g pos))) (xs.getD ((xs.length - 1 - st) + i) []) = true) → ks_X l G mX7_pushesSignature d 149 [(0, .ref 27), (1, .ref y), (2, .int (nI pos)), (3, .int (nI nx)), (4, .int (nI cnt)), (5, .int (nI i)), (8, .int (ks_bo b))] [] S (fun z S' => z = some (.int (ks_bo (anySg (g pos) (bytL g (pos + hdS (g pos)) (nx - pos - hdS (g pos))) ((xs.drop (xs.length - 1 - st)).take cnt)))) ∧ S' = S) := by
          intro b hd9 k9 hb
          refine ks_iload dX7_pushesSignature_149 rfl rfl ?_
          refine ks_if_eqZ (tgt := 156) dX7_pushesSignature_151 (by decide) rfl (fun h2 => ?_) (fun h2 => ?_)
          · refine ks_incN (c := 1) (e := i + 1) dX7_pushesSignature_156 rfl (by decide) rfl (by decide) rfl ?_
            refine ks_sub [(5, _), (0, _), (1, _), (2, _), (3, _), (4, _), (8, _)] rfl ?_
            refine ks_goto (tgt := 3) dX7_pushesSignature_159 (by decide) ?_
            refine ks_sub [(0, _), (1, _), (2, _), (3, _), (4, _), (5, _)] rfl ?_
            exact ks_sub [(0, _), (1, _), (2, _), (3, _), (4, _), (5, _)] rfl (ih (i + 1) (by omega) (by
              show List.any _ _ = false
              rw [hn]
              have h7 : isSg (g pos) (bytL g (pos + hdS (g pos)) (nx - pos - hdS (g pos))) (xs.getD ((xs.length - 1 - st) + i) []) = false := Bool.eq_false_iff.mpr (fun h => by rw [hb.mpr h] at h2; cases h2)
              rw [h7, Bool.or_false]
              exact hno))
          · refine ks_iconst (x := nI 1) dX7_pushesSignature_154 (by decide) rfl ?_
            refine ks_zret rfl rfl dX7_pushesSignature_155 ?_
            refine ⟨?_, rfl⟩
            have e1 : anySg (g pos) (bytL g (pos + hdS (g pos)) (nx - pos - hdS (g pos))) ((xs.drop (xs.length - 1 - st)).take cnt) = true := by
              have h5 : anySg (g pos) (bytL g (pos + hdS (g pos)) (nx - pos - hdS (g pos))) ((xs.drop (xs.length - 1 - st)).take (i + 1)) = true := by
                show List.any _ _ = true
                rw [hn, hb.mp h2, Bool.or_true]
              obtain ⟨x5, hx5, hx6⟩ := List.any_eq_true.mp h5
              exact List.any_eq_true.mpr ⟨x5, (List.take_subset_take_left _ (by omega)) hx5, hx6⟩
            rw [e1]
            rfl
        have inner : ∀ hd, hd = hdS (g pos) → (if m < 76 then g pos = m else g pos = 76) → nx - pos - hd = m → ∀ c2 k (b : Bool), k + c2 = m → (b = true ↔ ∀ q, q < k → g (pos + hd + q) = ar (f + q)) → ks_X l G mX7_pushesSignature d 86 [(0, .ref 27), (1, .ref y), (2, .int (nI pos)), (3, .int (nI nx)), (4, .int (nI cnt)), (5, .int (nI i)), (6, .int (nI m)), (7, .int (nI hd)), (8, .int (ks_bo b)), (9, .int (nI k))] [] S (fun z S' => z = some (.int (ks_bo (anySg (g pos) (bytL g (pos + hdS (g pos)) (nx - pos - hdS (g pos))) ((xs.drop (xs.length - 1 - st)).take cnt)))) ∧ S' = S) := by
          intro hd hhd hop hlen c2
          subst hhd
          have hfin : ∀ b : Bool, (b = true ↔ ∀ q, q < m → g (pos + hdS (g pos) + q) = ar (f + q)) → (b = true ↔ isSg (g pos) (bytL g (pos + hdS (g pos)) (nx - pos - hdS (g pos))) (xs.getD ((xs.length - 1 - st) + i) []) = true) := by
            intro b hb
            rw [hb]
            unfold isSg
            rw [hx0, decide_eq_true_iff, bytL_len, bytL_ext, hlen]
            exact ⟨fun h => ⟨hop, rfl, h⟩, fun h => h.2.2⟩
          induction c2 with
          | zero =>
            intro k b hk9 hb
            refine ks_iload dX7_pushesSignature_86 rfl rfl ?_
            refine ks_iload dX7_pushesSignature_88 rfl rfl ?_
            refine ks_icmp_geN (tgt := 149) (by omega) (by omega) dX7_pushesSignature_90 (by decide) rfl (fun h2 => ?_) (fun h2 => ?_)
            · obtain rfl : k = m := by omega
              refine ks_sub [(0, _), (1, _), (2, _), (3, _), (4, _), (5, _), (8, _)] rfl ?_
              exact ks_sub [(0, _), (1, _), (2, _), (3, _), (4, _), (5, _), (8, _)] rfl (K b 0 0 (hfin b hb))
            · omega
          | succ c2 ih2 =>
            intro k b hk9 hb
            refine ks_iload dX7_pushesSignature_86 rfl rfl ?_
            refine ks_iload dX7_pushesSignature_88 rfl rfl ?_
            refine ks_icmp_geN (tgt := 149) (by omega) (by omega) dX7_pushesSignature_90 (by decide) rfl (fun h2 => ?_) (fun h2 => ?_)
            · omega
            · refine ks_iload dX7_pushesSignature_93 rfl rfl ?_
              refine ks_if_eqZ (tgt := 149) dX7_pushesSignature_95 (by decide) rfl (fun h3 => ?_) (fun h3 => ?_)
              · refine ks_sub [(0, _), (1, _), (2, _), (3, _), (4, _), (5, _), (8, _)] rfl ?_
                exact ks_sub [(0, _), (1, _), (2, _), (3, _), (4, _), (5, _), (8, _)] rfl (K b 0 0 (hfin b ⟨fun h => absurd h (by rw [h3]; decide), fun h => hb.mpr (fun q hq => h q (by omega))⟩))
              · refine ks_aload_n dX7_pushesSignature_98 rfl rfl ?_
                refine ks_iload_n dX7_pushesSignature_99 rfl rfl ?_
                refine ks_iload dX7_pushesSignature_100 rfl rfl ?_
                refine ks_addN dX7_pushesSignature_102 rfl ?_
                refine ks_iload dX7_pushesSignature_103 rfl rfl ?_
                refine ks_addN dX7_pushesSignature_105 rfl ?_
                refine ks_baldB (i := pos + (hdS (g pos)) + k) hy rfl (by omega) (by omega) dX7_pushesSignature_106 rfl ?_
                refine ks_aload_n dX7_pushesSignature_107 rfl rfl ?_
                refine ks_getf (T := TX7) (kf := 3) kx_646 rfl in_X7 cl_X7 (by decide) hM rfl dX7_pushesSignature_108 rfl ?_
                refine ks_getf (T := TX8) (kf := 0) kx_609 rfl in_X8 cl_X8 (by decide) hO.ob rfl dX7_pushesSignature_111 rfl ?_
                refine ks_aload_n dX7_pushesSignature_114 rfl rfl ?_
                refine ks_getf (T := TX7) (kf := 3) kx_646 rfl in_X7 cl_X7 (by decide) hM rfl dX7_pushesSignature_115 rfl ?_
                refine ks_getf (T := TX8) (kf := 1) kx_611 rfl in_X8 cl_X8 (by decide) hO.ob rfl dX7_pushesSignature_118 rfl ?_
                refine ks_aload_n dX7_pushesSignature_121 rfl rfl ?_
                refine ks_getf (T := TX7) (kf := 18) kx_661 rfl in_X7 cl_X7 (by decide) hM rfl dX7_pushesSignature_122 rfl ?_
                refine ks_iload dX7_pushesSignature_125 rfl rfl ?_
                refine ks_subN (by omega) dX7_pushesSignature_127 rfl ?_
                refine ks_ialdN (i := st - i) f31 rfl (by omega) (by decide) dX7_pushesSignature_128 rfl ?_
                refine ks_ti (y := nI f) (congrArg nI ea) ?_
                refine ks_iload dX7_pushesSignature_129 rfl rfl ?_
                refine ks_addN dX7_pushesSignature_131 rfl ?_
                refine ks_baldB (i := f + k) f30 rfl (by omega) (by decide) dX7_pushesSignature_132 rfl ?_
                refine ks_icmp_neY (tgt := 140) (hg _) (hgr _) dX7_pushesSignature_133 (by decide) rfl (fun h4 => ?_) (fun h4 => ?_)
                · refine ks_iconst (x := nI 0) dX7_pushesSignature_140 (by decide) rfl ?_
                  refine ks_istore dX7_pushesSignature_141 (by decide) rfl ?_
                  refine ks_sub [(8, _), (0, _), (1, _), (2, _), (3, _), (4, _), (5, _), (6, _), (7, _), (9, _)] rfl ?_
                  refine ks_incN (c := 1) (e := k + 1) dX7_pushesSignature_143 rfl (by decide) rfl (by decide) rfl ?_
                  refine ks_sub [(9, _), (0, _), (1, _), (2, _), (3, _), (4, _), (5, _), (6, _), (7, _), (8, _)] rfl ?_
                  refine ks_goto (tgt := 86) dX7_pushesSignature_146 (by decide) ?_
                  refine ks_sub [(0, _), (1, _), (2, _), (3, _), (4, _), (5, _), (6, _), (7, _), (8, _), (9, _)] rfl (ih2 (k + 1) false (by omega) ?_)
                  exact ⟨(fun h => by cases h), fun h => absurd (h k (by omega)) h4⟩
                · refine ks_iconst (x := nI 1) dX7_pushesSignature_136 (by decide) rfl ?_
                  refine ks_goto (tgt := 141) dX7_pushesSignature_137 (by decide) ?_
                  refine ks_istore dX7_pushesSignature_141 (by decide) rfl ?_
                  refine ks_sub [(8, _), (0, _), (1, _), (2, _), (3, _), (4, _), (5, _), (6, _), (7, _), (9, _)] rfl ?_
                  refine ks_incN (c := 1) (e := k + 1) dX7_pushesSignature_143 rfl (by decide) rfl (by decide) rfl ?_
                  refine ks_sub [(9, _), (0, _), (1, _), (2, _), (3, _), (4, _), (5, _), (6, _), (7, _), (8, _)] rfl ?_
                  refine ks_goto (tgt := 86) dX7_pushesSignature_146 (by decide) ?_
                  refine ks_sub [(0, _), (1, _), (2, _), (3, _), (4, _), (5, _), (6, _), (7, _), (8, _), (9, _)] rfl (ih2 (k + 1) true (by omega) ?_)
                  refine ⟨fun _ q hq => ?_, fun _ => rfl⟩
                  rcases Nat.lt_succ_iff_lt_or_eq.mp hq with h | h
                  · exact hb.mp h3 q h
                  · rw [h]; exact h4
        refine ks_aload_n dX7_pushesSignature_10 rfl rfl ?_
        refine ks_getf (T := TX7) (kf := 3) kx_646 rfl in_X7 cl_X7 (by decide) hM rfl dX7_pushesSignature_11 rfl ?_
        refine ks_getf (T := TX8) (kf := 2) kx_613 rfl in_X8 cl_X8 (by decide) hO.ob rfl dX7_pushesSignature_14 rfl ?_
        refine ks_aload_n dX7_pushesSignature_17 rfl rfl ?_
        refine ks_getf (T := TX7) (kf := 18) kx_661 rfl in_X7 cl_X7 (by decide) hM rfl dX7_pushesSignature_18 rfl ?_
        refine ks_iload dX7_pushesSignature_21 rfl rfl ?_
        refine ks_subN (by omega) dX7_pushesSignature_23 rfl ?_
        refine ks_ialdN (i := st - i) f32 rfl (by omega) (by decide) dX7_pushesSignature_24 rfl ?_
        refine ks_ti (y := nI m) (congrArg nI em) ?_
        refine ks_istore dX7_pushesSignature_25 (by decide) rfl ?_
        refine ks_sub [(6, _), (0, _), (1, _), (2, _), (3, _), (4, _), (5, _)] rfl ?_
        refine ks_iload dX7_pushesSignature_27 rfl rfl ?_
        refine ks_bipush (x := nI 76) dX7_pushesSignature_29 (by decide) rfl ?_
        refine ks_icmp_geN (tgt := 38) (by omega) (by decide) dX7_pushesSignature_31 (by decide) rfl (fun hc31 => ?_) (fun hc31 => ?_)
        · refine ks_iconst (x := nI 2) dX7_pushesSignature_38 (by decide) rfl ?_
          refine ks_istore dX7_pushesSignature_39 (by decide) rfl ?_
          refine ks_sub [(7, _), (0, _), (1, _), (2, _), (3, _), (4, _), (5, _), (6, _)] rfl ?_
          refine ks_aload_n dX7_pushesSignature_41 rfl rfl ?_
          refine ks_iload_n dX7_pushesSignature_42 rfl rfl ?_
          refine ks_baldB (i := pos) hy rfl (by omega) (by omega) dX7_pushesSignature_43 rfl ?_
          refine ks_sipush (x := nI 255) dX7_pushesSignature_44 (by decide) rfl ?_
          refine ks_andB (hg _) dX7_pushesSignature_47 rfl ?_
          have hy47 : g pos < 256 := (hg _)
          refine ks_iload dX7_pushesSignature_48 rfl rfl ?_
          refine ks_bipush (x := nI 76) dX7_pushesSignature_50 (by decide) rfl ?_
          refine ks_icmp_geN (tgt := 60) (by omega) (by decide) dX7_pushesSignature_52 (by decide) rfl (fun hc52 => ?_) (fun hc52 => ?_)
          · refine ks_bipush (x := nI 76) dX7_pushesSignature_60 (by decide) rfl ?_
            refine ks_icmp_neN (tgt := 80) (by omega) (by decide) dX7_pushesSignature_62 (by decide) rfl (fun hc62 => ?_) (fun hc62 => ?_)
            · refine ks_iconst (x := nI 0) dX7_pushesSignature_80 (by decide) rfl ?_
              refine ks_istore dX7_pushesSignature_81 (by decide) rfl ?_
              refine ks_sub [(8, _), (0, _), (1, _), (2, _), (3, _), (4, _), (5, _), (6, _), (7, _)] rfl ?_
              refine ks_iconst (x := nI 0) dX7_pushesSignature_83 (by decide) rfl ?_
              refine ks_istore dX7_pushesSignature_84 (by decide) rfl ?_
              refine ks_sub [(9, _), (0, _), (1, _), (2, _), (3, _), (4, _), (5, _), (6, _), (7, _), (8, _)] rfl ?_
              refine ks_iload dX7_pushesSignature_86 rfl rfl ?_
              refine ks_iload dX7_pushesSignature_88 rfl rfl ?_
              refine ks_icmp_geN (tgt := 149) (by decide) (by omega) dX7_pushesSignature_90 (by decide) rfl (fun h6 => ?_) (fun h6 => ?_)
              · refine ks_sub [(0, _), (1, _), (2, _), (3, _), (4, _), (5, _), (8, _)] rfl ?_
                exact ks_sub [(0, _), (1, _), (2, _), (3, _), (4, _), (5, _), (8, _)] rfl (K false 0 0 ⟨(fun h => by cases h), fun h => by
                    unfold isSg at h
                    rw [hx0, decide_eq_true_iff, bytL_len, bytL_ext] at h
                    obtain ⟨h7, h8, h9⟩ := h
                    exfalso
                    revert h7
                    first
                      | (rw [if_pos (by omega)]; intro h7; have := b3 (by omega); omega)
                      | (rw [if_neg (by omega)]; intro h7; have : hdS (g pos) = 2 := (by unfold hdS; rw [if_pos h7]); omega)⟩)
              · refine ks_iload dX7_pushesSignature_93 rfl rfl ?_
                refine ks_if_eqN (tgt := 149) (by decide) dX7_pushesSignature_95 (by decide) rfl (fun h7 => ?_) (fun h7 => ?_)
                · refine ks_sub [(0, _), (1, _), (2, _), (3, _), (4, _), (5, _), (8, _)] rfl ?_
                  exact ks_sub [(0, _), (1, _), (2, _), (3, _), (4, _), (5, _), (8, _)] rfl (K false 0 0 ⟨(fun h => by cases h), fun h => by
                      unfold isSg at h
                      rw [hx0, decide_eq_true_iff, bytL_len, bytL_ext] at h
                      obtain ⟨h7, h8, h9⟩ := h
                      exfalso
                      revert h7
                      first
                        | (rw [if_pos (by omega)]; intro h7; have := b3 (by omega); omega)
                        | (rw [if_neg (by omega)]; intro h7; have : hdS (g pos) = 2 := (by unfold hdS; rw [if_pos h7]); omega)⟩)
                · exact absurd h7 (by decide)
            · refine ks_iload_n dX7_pushesSignature_65 rfl rfl ?_
              refine ks_iload_n dX7_pushesSignature_66 rfl rfl ?_
              refine ks_subN (by omega) dX7_pushesSignature_67 rfl ?_
              refine ks_iload dX7_pushesSignature_68 rfl rfl ?_
              refine ks_subN (by omega) dX7_pushesSignature_70 rfl ?_
              refine ks_iload dX7_pushesSignature_71 rfl rfl ?_
              refine ks_icmp_neN (tgt := 80) (by omega) (by omega) dX7_pushesSignature_73 (by decide) rfl (fun hc73 => ?_) (fun hc73 => ?_)
              · refine ks_iconst (x := nI 0) dX7_pushesSignature_80 (by decide) rfl ?_
                refine ks_istore dX7_pushesSignature_81 (by decide) rfl ?_
                refine ks_sub [(8, _), (0, _), (1, _), (2, _), (3, _), (4, _), (5, _), (6, _), (7, _)] rfl ?_
                refine ks_iconst (x := nI 0) dX7_pushesSignature_83 (by decide) rfl ?_
                refine ks_istore dX7_pushesSignature_84 (by decide) rfl ?_
                refine ks_sub [(9, _), (0, _), (1, _), (2, _), (3, _), (4, _), (5, _), (6, _), (7, _), (8, _)] rfl ?_
                refine ks_iload dX7_pushesSignature_86 rfl rfl ?_
                refine ks_iload dX7_pushesSignature_88 rfl rfl ?_
                refine ks_icmp_geN (tgt := 149) (by decide) (by omega) dX7_pushesSignature_90 (by decide) rfl (fun h6 => ?_) (fun h6 => ?_)
                · refine ks_sub [(0, _), (1, _), (2, _), (3, _), (4, _), (5, _), (8, _)] rfl ?_
                  exact ks_sub [(0, _), (1, _), (2, _), (3, _), (4, _), (5, _), (8, _)] rfl (K false 0 0 ⟨(fun h => by cases h), fun h => by
                      unfold isSg at h
                      rw [hx0, decide_eq_true_iff, bytL_len, bytL_ext] at h
                      obtain ⟨h7, h8, h9⟩ := h
                      exfalso
                      revert h7
                      first
                        | (rw [if_pos (by omega)]; intro h7; have := b3 (by omega); omega)
                        | (rw [if_neg (by omega)]; intro h7; have : hdS (g pos) = 2 := (by unfold hdS; rw [if_pos h7]); omega)⟩)
                · refine ks_iload dX7_pushesSignature_93 rfl rfl ?_
                  refine ks_if_eqN (tgt := 149) (by decide) dX7_pushesSignature_95 (by decide) rfl (fun h7 => ?_) (fun h7 => ?_)
                  · refine ks_sub [(0, _), (1, _), (2, _), (3, _), (4, _), (5, _), (8, _)] rfl ?_
                    exact ks_sub [(0, _), (1, _), (2, _), (3, _), (4, _), (5, _), (8, _)] rfl (K false 0 0 ⟨(fun h => by cases h), fun h => by
                        unfold isSg at h
                        rw [hx0, decide_eq_true_iff, bytL_len, bytL_ext] at h
                        obtain ⟨h7, h8, h9⟩ := h
                        exfalso
                        revert h7
                        first
                          | (rw [if_pos (by omega)]; intro h7; have := b3 (by omega); omega)
                          | (rw [if_neg (by omega)]; intro h7; have : hdS (g pos) = 2 := (by unfold hdS; rw [if_pos h7]); omega)⟩)
                  · exact absurd h7 (by decide)
              · refine ks_iconst (x := nI 1) dX7_pushesSignature_76 (by decide) rfl ?_
                refine ks_goto (tgt := 81) dX7_pushesSignature_77 (by decide) ?_
                refine ks_istore dX7_pushesSignature_81 (by decide) rfl ?_
                refine ks_sub [(8, _), (0, _), (1, _), (2, _), (3, _), (4, _), (5, _), (6, _), (7, _)] rfl ?_
                refine ks_iconst (x := nI 0) dX7_pushesSignature_83 (by decide) rfl ?_
                refine ks_istore dX7_pushesSignature_84 (by decide) rfl ?_
                refine ks_sub [(9, _), (0, _), (1, _), (2, _), (3, _), (4, _), (5, _), (6, _), (7, _), (8, _)] rfl ?_
                have e7 : 2 = hdS (g pos) := by first | exact (b3 (by omega)).symm | (unfold hdS; rw [if_pos (by omega)])
                refine ks_sub [(0, _), (1, _), (2, _), (3, _), (4, _), (5, _), (6, _), (7, _), (8, _), (9, _)] rfl (inner 2 e7 (by first | (rw [if_pos (by omega)]; omega) | (rw [if_neg (by omega)]; omega)) (by omega) m 0 true (by omega) ⟨fun _ q hq => absurd hq (Nat.not_lt_zero q), fun _ => rfl⟩)
          · omega
        · refine ks_iconst (x := nI 1) dX7_pushesSignature_34 (by decide) rfl ?_
          refine ks_goto (tgt := 39) dX7_pushesSignature_35 (by decide) ?_
          refine ks_istore dX7_pushesSignature_39 (by decide) rfl ?_
          refine ks_sub [(7, _), (0, _), (1, _), (2, _), (3, _), (4, _), (5, _), (6, _)] rfl ?_
          refine ks_aload_n dX7_pushesSignature_41 rfl rfl ?_
          refine ks_iload_n dX7_pushesSignature_42 rfl rfl ?_
          refine ks_baldB (i := pos) hy rfl (by omega) (by omega) dX7_pushesSignature_43 rfl ?_
          refine ks_sipush (x := nI 255) dX7_pushesSignature_44 (by decide) rfl ?_
          refine ks_andB (hg _) dX7_pushesSignature_47 rfl ?_
          have hy47 : g pos < 256 := (hg _)
          refine ks_iload dX7_pushesSignature_48 rfl rfl ?_
          refine ks_bipush (x := nI 76) dX7_pushesSignature_50 (by decide) rfl ?_
          refine ks_icmp_geN (tgt := 60) (by omega) (by decide) dX7_pushesSignature_52 (by decide) rfl (fun hc52 => ?_) (fun hc52 => ?_)
          · omega
          · refine ks_iload dX7_pushesSignature_55 rfl rfl ?_
            refine ks_goto (tgt := 62) dX7_pushesSignature_57 (by decide) ?_
            refine ks_icmp_neN (tgt := 80) (by omega) (by omega) dX7_pushesSignature_62 (by decide) rfl (fun hc62 => ?_) (fun hc62 => ?_)
            · refine ks_iconst (x := nI 0) dX7_pushesSignature_80 (by decide) rfl ?_
              refine ks_istore dX7_pushesSignature_81 (by decide) rfl ?_
              refine ks_sub [(8, _), (0, _), (1, _), (2, _), (3, _), (4, _), (5, _), (6, _), (7, _)] rfl ?_
              refine ks_iconst (x := nI 0) dX7_pushesSignature_83 (by decide) rfl ?_
              refine ks_istore dX7_pushesSignature_84 (by decide) rfl ?_
              refine ks_sub [(9, _), (0, _), (1, _), (2, _), (3, _), (4, _), (5, _), (6, _), (7, _), (8, _)] rfl ?_
              refine ks_iload dX7_pushesSignature_86 rfl rfl ?_
              refine ks_iload dX7_pushesSignature_88 rfl rfl ?_
              refine ks_icmp_geN (tgt := 149) (by decide) (by omega) dX7_pushesSignature_90 (by decide) rfl (fun h6 => ?_) (fun h6 => ?_)
              · refine ks_sub [(0, _), (1, _), (2, _), (3, _), (4, _), (5, _), (8, _)] rfl ?_
                exact ks_sub [(0, _), (1, _), (2, _), (3, _), (4, _), (5, _), (8, _)] rfl (K false 0 0 ⟨(fun h => by cases h), fun h => by
                    unfold isSg at h
                    rw [hx0, decide_eq_true_iff, bytL_len, bytL_ext] at h
                    obtain ⟨h7, h8, h9⟩ := h
                    exfalso
                    revert h7
                    first
                      | (rw [if_pos (by omega)]; intro h7; have := b3 (by omega); omega)
                      | (rw [if_neg (by omega)]; intro h7; have : hdS (g pos) = 2 := (by unfold hdS; rw [if_pos h7]); omega)⟩)
              · refine ks_iload dX7_pushesSignature_93 rfl rfl ?_
                refine ks_if_eqN (tgt := 149) (by decide) dX7_pushesSignature_95 (by decide) rfl (fun h7 => ?_) (fun h7 => ?_)
                · refine ks_sub [(0, _), (1, _), (2, _), (3, _), (4, _), (5, _), (8, _)] rfl ?_
                  exact ks_sub [(0, _), (1, _), (2, _), (3, _), (4, _), (5, _), (8, _)] rfl (K false 0 0 ⟨(fun h => by cases h), fun h => by
                      unfold isSg at h
                      rw [hx0, decide_eq_true_iff, bytL_len, bytL_ext] at h
                      obtain ⟨h7, h8, h9⟩ := h
                      exfalso
                      revert h7
                      first
                        | (rw [if_pos (by omega)]; intro h7; have := b3 (by omega); omega)
                        | (rw [if_neg (by omega)]; intro h7; have : hdS (g pos) = 2 := (by unfold hdS; rw [if_pos h7]); omega)⟩)
                · exact absurd h7 (by decide)
            · refine ks_iload_n dX7_pushesSignature_65 rfl rfl ?_
              refine ks_iload_n dX7_pushesSignature_66 rfl rfl ?_
              refine ks_subN (by omega) dX7_pushesSignature_67 rfl ?_
              refine ks_iload dX7_pushesSignature_68 rfl rfl ?_
              refine ks_subN (by omega) dX7_pushesSignature_70 rfl ?_
              refine ks_iload dX7_pushesSignature_71 rfl rfl ?_
              refine ks_icmp_neN (tgt := 80) (by omega) (by omega) dX7_pushesSignature_73 (by decide) rfl (fun hc73 => ?_) (fun hc73 => ?_)
              · refine ks_iconst (x := nI 0) dX7_pushesSignature_80 (by decide) rfl ?_
                refine ks_istore dX7_pushesSignature_81 (by decide) rfl ?_
                refine ks_sub [(8, _), (0, _), (1, _), (2, _), (3, _), (4, _), (5, _), (6, _), (7, _)] rfl ?_
                refine ks_iconst (x := nI 0) dX7_pushesSignature_83 (by decide) rfl ?_
                refine ks_istore dX7_pushesSignature_84 (by decide) rfl ?_
                refine ks_sub [(9, _), (0, _), (1, _), (2, _), (3, _), (4, _), (5, _), (6, _), (7, _), (8, _)] rfl ?_
                refine ks_iload dX7_pushesSignature_86 rfl rfl ?_
                refine ks_iload dX7_pushesSignature_88 rfl rfl ?_
                refine ks_icmp_geN (tgt := 149) (by decide) (by omega) dX7_pushesSignature_90 (by decide) rfl (fun h6 => ?_) (fun h6 => ?_)
                · refine ks_sub [(0, _), (1, _), (2, _), (3, _), (4, _), (5, _), (8, _)] rfl ?_
                  exact ks_sub [(0, _), (1, _), (2, _), (3, _), (4, _), (5, _), (8, _)] rfl (K false 0 0 ⟨(fun h => by cases h), fun h => by
                      unfold isSg at h
                      rw [hx0, decide_eq_true_iff, bytL_len, bytL_ext] at h
                      obtain ⟨h7, h8, h9⟩ := h
                      exfalso
                      revert h7
                      first
                        | (rw [if_pos (by omega)]; intro h7; have := b3 (by omega); omega)
                        | (rw [if_neg (by omega)]; intro h7; have : hdS (g pos) = 2 := (by unfold hdS; rw [if_pos h7]); omega)⟩)
                · refine ks_iload dX7_pushesSignature_93 rfl rfl ?_
                  refine ks_if_eqN (tgt := 149) (by decide) dX7_pushesSignature_95 (by decide) rfl (fun h7 => ?_) (fun h7 => ?_)
                  · refine ks_sub [(0, _), (1, _), (2, _), (3, _), (4, _), (5, _), (8, _)] rfl ?_
                    exact ks_sub [(0, _), (1, _), (2, _), (3, _), (4, _), (5, _), (8, _)] rfl (K false 0 0 ⟨(fun h => by cases h), fun h => by
                        unfold isSg at h
                        rw [hx0, decide_eq_true_iff, bytL_len, bytL_ext] at h
                        obtain ⟨h7, h8, h9⟩ := h
                        exfalso
                        revert h7
                        first
                          | (rw [if_pos (by omega)]; intro h7; have := b3 (by omega); omega)
                          | (rw [if_neg (by omega)]; intro h7; have : hdS (g pos) = 2 := (by unfold hdS; rw [if_pos h7]); omega)⟩)
                  · exact absurd h7 (by decide)
              · refine ks_iconst (x := nI 1) dX7_pushesSignature_76 (by decide) rfl ?_
                refine ks_goto (tgt := 81) dX7_pushesSignature_77 (by decide) ?_
                refine ks_istore dX7_pushesSignature_81 (by decide) rfl ?_
                refine ks_sub [(8, _), (0, _), (1, _), (2, _), (3, _), (4, _), (5, _), (6, _), (7, _)] rfl ?_
                refine ks_iconst (x := nI 0) dX7_pushesSignature_83 (by decide) rfl ?_
                refine ks_istore dX7_pushesSignature_84 (by decide) rfl ?_
                refine ks_sub [(9, _), (0, _), (1, _), (2, _), (3, _), (4, _), (5, _), (6, _), (7, _), (8, _)] rfl ?_
                have e7 : 1 = hdS (g pos) := by first | exact (b3 (by omega)).symm | (unfold hdS; rw [if_pos (by omega)])
                refine ks_sub [(0, _), (1, _), (2, _), (3, _), (4, _), (5, _), (6, _), (7, _), (8, _), (9, _)] rfl (inner 1 e7 (by first | (rw [if_pos (by omega)]; omega) | (rw [if_neg (by omega)]; omega)) (by omega) m 0 true (by omega) ⟨fun _ q hq => absurd hq (Nat.not_lt_zero q), fun _ => rfl⟩)
  refine ks_of (by decide) rfl rfl (Nat.le_of_ble_eq_true rfl) ?_
  show ks_X l G mX7_pushesSignature d 0 [(0, .ref 27), (1, .ref y), (2, .int (nI pos)), (3, .int (nI nx)), (4, .int (nI cnt))] [] S _
  refine ks_iconst (x := nI 0) dX7_pushesSignature_0 (by decide) rfl ?_
  refine ks_istore dX7_pushesSignature_1 (by decide) rfl ?_
  refine ks_sub [(5, _), (0, _), (1, _), (2, _), (3, _), (4, _)] rfl ?_
  exact ks_sub [(0, _), (1, _), (2, _), (3, _), (4, _), (5, _)] rfl (loop cnt 0 (by omega) (by rw [List.take_zero]; rfl))
set_option maxRecDepth 100000 in
set_option maxHeartbeats 2000000 in
theorem c_mc_cleanCode {l : Launch} {G : ks_G} {d : Nat} {S : ks_S} {inp cy pa pe pb ops opn cl st : Nat} {kT kC sC : Int32} (hM : S.2.2 27 = some (mcO inp cy pa pe pb ops opn cl kT kC (nI st) sC)) {xs ys : List (List Nat)} {u : Nat} (hO : st_ok S xs ys u) {y N s e cnt : Nat} {g : Nat → Nat} {ob : Option (List Nat)} (hy : S.2.2 y = some (kB N g)) (hg : kO g) (hN : N < 2 ^ 20) (hse : s ≤ e) (he : e ≤ N) (hes : e - s ≤ 1600) (hyn : y ∉ ([38, 37] : List Nat)) (hst : st < xs.length) (hcn : cnt ≤ st + 1) (hB : bfS S 37 38 1600 ob) : ks_P l G yX7_cleanCode mX7_cleanCode (d + 2) [.ref 27, .ref y, .int (nI s), .int (nI e), .int (nI cnt)] S (fun z S' => z = none ∧ ks_up S S' [38, 37] ∧ bfS S' 37 38 1600 (some (cln_ ((xs.drop (xs.length - 1 - st)).take cnt) (bytL g s (e - s))))) := by
  have tail : ∀ (S1 : ks_S) (M : List Nat) (p : Nat), s ≤ p → p ≤ e → M.length + (e - p) ≤ 1600 → ks_up S S1 [38, 37] → bfS S1 37 38 1600 (some M) → ks_X l G mX7_cleanCode (d + 2) 95 [(0, .ref 27), (1, .ref y), (3, .int (nI e)), (5, .int (nI p))] [] S1 (fun z S' => z = none ∧ ks_up S S' [38, 37] ∧ bfS S' 37 38 1600 (some (M ++ bytL g p (e - p)))) := by
    intro S1 M p hsp hpe hM9 hu hB1
    have hM1 := hu.at hM (by decide)
    have hy1 := hu.at hy hyn
    have hO1 := hO.up hu (by decide)
    refine ks_aload_n dX7_cleanCode_95 rfl rfl ?_
    refine ks_getf (T := TX7) (kf := 5) kx_648 rfl in_X7 cl_X7 (by decide) hM1 rfl dX7_cleanCode_96 rfl ?_
    refine ks_aload_n dX7_cleanCode_99 rfl rfl ?_
    refine ks_iload dX7_cleanCode_100 rfl rfl ?_
    refine ks_iload_n dX7_cleanCode_102 rfl rfl ?_
    refine ks_iload dX7_cleanCode_103 rfl rfl ?_
    refine ks_subN (by omega) dX7_cleanCode_105 rfl ?_
    refine ks_callV (n := 3) (M' := mX1_addBytes) (bf_bytes (d := d) (i := p) (n := e - p) hB1 (by decide) hy1 hg (by omega) (by omega)) (hB1.ob) cl_X1 rfl kx_1342 kx_872 kx_873 kx_2 kx_874 (by decide +kernel) rfl (by decide) (Nat.le_of_ble_eq_true rfl) rfl dX7_cleanCode_106 rfl (fun r2 T2 q2 => ?_)
    obtain ⟨rfl, u2, b2⟩ := q2
    rw [bfA_fit (by rw [bytL_len]; exact hM9)] at b2
    refine ks_ret rfl dX7_cleanCode_109 ?_
    exact ⟨rfl, hu.trans u2, b2⟩
  have loop : ∀ f p i (S1 : ks_S) (M : List Nat), e - p ≤ f → i ≤ p → s ≤ p → p ≤ e → M.length + (e - p) ≤ 1600 → ks_up S S1 [38, 37] → bfS S1 37 38 1600 (some M) → ks_X l G mX7_cleanCode (d + 2) 13 [(0, .ref 27), (1, .ref y), (3, .int (nI e)), (4, .int (nI cnt)), (5, .int (nI p)), (6, .int (nI i))] [] S1 (fun z S' => z = none ∧ ks_up S S' [38, 37] ∧ bfS S' 37 38 1600 (some (M ++ clnN f ((xs.drop (xs.length - 1 - st)).take cnt) (bytL g p (e - p))))) := by
    intro f
    induction f with
    | zero =>
      intro p i S1 M hf hi hsp hpe hM9 hu hB1
      have hM1 := hu.at hM (by decide)
      have hy1 := hu.at hy hyn
      have hO1 := hO.up hu (by decide)
      rw [show clnN 0 ((xs.drop (xs.length - 1 - st)).take cnt) (bytL g p (e - p)) = bytL g p (e - p) from rfl]
      refine ks_iload dX7_cleanCode_13 rfl rfl ?_
      refine ks_iload_n dX7_cleanCode_15 rfl rfl ?_
      refine ks_icmp_geN (tgt := 95) (by omega) (by omega) dX7_cleanCode_16 (by decide) rfl (fun h1 => ?_) (fun h1 => ?_)
      · refine ks_sub [(0, _), (1, _), (3, _), (5, _)] rfl ?_
        exact ks_sub [(0, _), (1, _), (3, _), (5, _)] rfl (tail S1 M p hsp hpe hM9 hu hB1)
      · refine ks_iload dX7_cleanCode_19 rfl rfl ?_
        refine ks_iload_n dX7_cleanCode_21 rfl rfl ?_
        refine ks_icmp_geN (tgt := 95) (by omega) (by omega) dX7_cleanCode_22 (by decide) rfl (fun h2 => ?_) (fun h2 => ?_)
        · refine ks_sub [(0, _), (1, _), (3, _), (5, _)] rfl ?_
          exact ks_sub [(0, _), (1, _), (3, _), (5, _)] rfl (tail S1 M p hsp hpe hM9 hu hB1)
        · omega
    | succ f ih =>
      intro p i S1 M hf hi hsp hpe hM9 hu hB1
      have hM1 := hu.at hM (by decide)
      have hy1 := hu.at hy hyn
      have hO1 := hO.up hu (by decide)
      refine ks_iload dX7_cleanCode_13 rfl rfl ?_
      refine ks_iload_n dX7_cleanCode_15 rfl rfl ?_
      refine ks_icmp_geN (tgt := 95) (by omega) (by omega) dX7_cleanCode_16 (by decide) rfl (fun h1 => ?_) (fun h1 => ?_)
      · have e0 : e - p = 0 := by omega
        have e1 : clnN (f + 1) ((xs.drop (xs.length - 1 - st)).take cnt) (bytL g p (e - p)) = bytL g p (e - p) := by rw [e0]; rfl
        rw [e1]
        refine ks_sub [(0, _), (1, _), (3, _), (5, _)] rfl ?_
        exact ks_sub [(0, _), (1, _), (3, _), (5, _)] rfl (tail S1 M p hsp hpe hM9 hu hB1)
      · refine ks_iload dX7_cleanCode_19 rfl rfl ?_
        refine ks_iload_n dX7_cleanCode_21 rfl rfl ?_
        refine ks_icmp_geN (tgt := 95) (by omega) (by omega) dX7_cleanCode_22 (by decide) rfl (fun h2 => ?_) (fun h2 => ?_)
        · have e0 : e - p = 0 := by omega
          have e1 : clnN (f + 1) ((xs.drop (xs.length - 1 - st)).take cnt) (bytL g p (e - p)) = bytL g p (e - p) := by rw [e0]; rfl
          rw [e1]
          refine ks_sub [(0, _), (1, _), (3, _), (5, _)] rfl ?_
          exact ks_sub [(0, _), (1, _), (3, _), (5, _)] rfl (tail S1 M p hsp hpe hM9 hu hB1)
        · refine ks_aload_n dX7_cleanCode_25 rfl rfl ?_
          refine ks_iload dX7_cleanCode_26 rfl rfl ?_
          refine ks_iload_n dX7_cleanCode_28 rfl rfl ?_
          refine ks_callS (n := 3) (M' := mX7_after) (c_after (d := d) hy1 hg hN he (by omega)) kx_1331 kx_1332 kx_24 kx_1333 (by decide +kernel) rfl (by decide) (Nat.le_of_ble_eq_true rfl) rfl dX7_cleanCode_29 rfl (fun r2 T2 q2 => ?_)
          obtain ⟨rfl, hS2⟩ := q2
          obtain rfl := hS2.symm
          rcases aftI_cases g p e with ⟨a1, a2⟩ | ⟨k, a1, a2, a3, a4, a5⟩
          · rw [a2]
            refine ks_istore dX7_cleanCode_32 (by decide) rfl ?_
            refine ks_sub [(7, _), (0, _), (1, _), (3, _), (4, _), (5, _), (6, _)] rfl ?_
            refine ks_iload dX7_cleanCode_34 rfl rfl ?_
            refine ks_if_ge (tgt := 42) dX7_cleanCode_36 (by decide) rfl (fun h3 => ?_) (fun h3 => ?_)
            · exact absurd (show ((-1 : Int32) < 0) by decide) (by first | exact h3 | exact Int32.not_lt.mpr h3)
            · refine ks_goto (tgt := 95) dX7_cleanCode_39 (by decide) ?_
              have e1 : clnN (f + 1) ((xs.drop (xs.length - 1 - st)).take cnt) (bytL g p (e - p)) = bytL g p (e - p) := by unfold clnN; rw [a1]
              rw [e1]
              refine ks_sub [(0, _), (1, _), (3, _), (5, _)] rfl ?_
              exact ks_sub [(0, _), (1, _), (3, _), (5, _)] rfl (tail S1 M p hsp hpe hM9 hu hB1)
          · rw [a2]
            have e1 : clnN (f + 1) ((xs.drop (xs.length - 1 - st)).take cnt) (bytL g p (e - p)) = (if g p = 171 ∨ anySg (g p) (bytL g (p + hdS (g p)) (p + k - p - hdS (g p))) ((xs.drop (xs.length - 1 - st)).take cnt) = true then [] else bytL g p k) ++ clnN f ((xs.drop (xs.length - 1 - st)).take cnt) (bytL g (p + k) (e - (p + k))) := by
              rw [clnN, a1]
              simp only []
              rw [bytL_head g (by omega), bytL_take _ _ a4, bytL_drop _ _ a4, bytL_drop _ _ a5, show p + k - p - hdS (g p) = k - hdS (g p) by omega, show e - p - k = e - (p + k) by omega]
            rw [e1]
            refine ks_istore dX7_cleanCode_32 (by decide) rfl ?_
            refine ks_sub [(7, _), (0, _), (1, _), (3, _), (4, _), (5, _), (6, _)] rfl ?_
            refine ks_iload dX7_cleanCode_34 rfl rfl ?_
            refine ks_if_geN (tgt := 42) (by omega) dX7_cleanCode_36 (by decide) ?_
            refine ks_aload_n dX7_cleanCode_42 rfl rfl ?_
            refine ks_iload dX7_cleanCode_43 rfl rfl ?_
            refine ks_baldB (i := p) hy1 rfl (by omega) (by omega) dX7_cleanCode_45 rfl ?_
            refine ks_sipush (x := nI 255) dX7_cleanCode_46 (by decide) rfl ?_
            refine ks_andB (hg _) dX7_cleanCode_49 rfl ?_
            have hy49 : g p < 256 := (hg _)
            refine ks_sipush (x := nI 171) dX7_cleanCode_50 (by decide) rfl ?_
            refine ks_icmp_eqN (tgt := 85) (by omega) (by decide) dX7_cleanCode_53 (by decide) rfl (fun h4 => ?_) (fun h4 => ?_)
            · refine ks_iload dX7_cleanCode_85 rfl rfl ?_
              refine ks_istore dX7_cleanCode_87 (by decide) rfl ?_
              refine ks_sub [(5, _), (0, _), (1, _), (3, _), (4, _), (6, _), (7, _)] rfl ?_
              refine ks_incN (c := 1) (e := i + 1) dX7_cleanCode_89 rfl (by decide) rfl (by decide) rfl ?_
              refine ks_sub [(6, _), (0, _), (1, _), (3, _), (4, _), (5, _), (7, _)] rfl ?_
              refine ks_goto (tgt := 13) dX7_cleanCode_92 (by decide) ?_
              refine ks_sub [(0, _), (1, _), (3, _), (4, _), (5, _), (6, _)] rfl ?_
              rw [if_pos (Or.inl h4), List.nil_append]
              exact ks_sub [(0, _), (1, _), (3, _), (4, _), (5, _), (6, _)] rfl (ih (p + k) (i + 1) S1 M (by omega) (by omega) (by omega) (by omega) (by omega) hu hB1)
            · refine ks_aload_n dX7_cleanCode_56 rfl rfl ?_
              refine ks_aload_n dX7_cleanCode_57 rfl rfl ?_
              refine ks_iload dX7_cleanCode_58 rfl rfl ?_
              refine ks_iload dX7_cleanCode_60 rfl rfl ?_
              refine ks_iload dX7_cleanCode_62 rfl rfl ?_
              refine ks_callV (n := 4) (M' := mX7_pushesSignature) (c_mc_pushesSignature (d := d + 1) (pos := p) (nx := p + k) hM1 hO1 hy1 hg hN (by omega) (by omega) hst hcn) hM1 cl_X7 rfl kx_1338 kx_1340 kxp_22 kx_24 kx_1341 (by decide +kernel) rfl (by decide) (Nat.le_of_ble_eq_true rfl) rfl dX7_cleanCode_64 rfl (fun r3 T3 q3 => ?_)
              obtain ⟨rfl, hS3⟩ := q3
              obtain rfl := hS3.symm
              refine ks_if_neZ (tgt := 85) dX7_cleanCode_67 (by decide) rfl (fun h5 => ?_) (fun h5 => ?_)
              · refine ks_iload dX7_cleanCode_85 rfl rfl ?_
                refine ks_istore dX7_cleanCode_87 (by decide) rfl ?_
                refine ks_sub [(5, _), (0, _), (1, _), (3, _), (4, _), (6, _), (7, _)] rfl ?_
                refine ks_incN (c := 1) (e := i + 1) dX7_cleanCode_89 rfl (by decide) rfl (by decide) rfl ?_
                refine ks_sub [(6, _), (0, _), (1, _), (3, _), (4, _), (5, _), (7, _)] rfl ?_
                refine ks_goto (tgt := 13) dX7_cleanCode_92 (by decide) ?_
                refine ks_sub [(0, _), (1, _), (3, _), (4, _), (5, _), (6, _)] rfl ?_
                rw [if_pos (Or.inr h5), List.nil_append]
                exact ks_sub [(0, _), (1, _), (3, _), (4, _), (5, _), (6, _)] rfl (ih (p + k) (i + 1) S1 M (by omega) (by omega) (by omega) (by omega) (by omega) hu hB1)
              · refine ks_aload_n dX7_cleanCode_70 rfl rfl ?_
                refine ks_getf (T := TX7) (kf := 5) kx_648 rfl in_X7 cl_X7 (by decide) hM1 rfl dX7_cleanCode_71 rfl ?_
                refine ks_aload_n dX7_cleanCode_74 rfl rfl ?_
                refine ks_iload dX7_cleanCode_75 rfl rfl ?_
                refine ks_iload dX7_cleanCode_77 rfl rfl ?_
                refine ks_iload dX7_cleanCode_79 rfl rfl ?_
                refine ks_subN (by omega) dX7_cleanCode_81 rfl ?_
                refine ks_callV (n := 3) (M' := mX1_addBytes) (bf_bytes (d := d) (i := p) (n := p + k - p) hB1 (by decide) hy1 hg (by omega) (by omega)) (hB1.ob) cl_X1 rfl kx_1342 kx_872 kx_873 kx_2 kx_874 (by decide +kernel) rfl (by decide) (Nat.le_of_ble_eq_true rfl) rfl dX7_cleanCode_82 rfl (fun r4 T4 q4 => ?_)
                obtain ⟨rfl, u4, b4⟩ := q4
                rw [show p + k - p = k by omega] at b4
                rw [bfA_fit (by rw [bytL_len]; omega)] at b4
                refine ks_iload dX7_cleanCode_85 rfl rfl ?_
                refine ks_istore dX7_cleanCode_87 (by decide) rfl ?_
                refine ks_sub [(5, _), (0, _), (1, _), (3, _), (4, _), (6, _), (7, _)] rfl ?_
                refine ks_incN (c := 1) (e := i + 1) dX7_cleanCode_89 rfl (by decide) rfl (by decide) rfl ?_
                refine ks_sub [(6, _), (0, _), (1, _), (3, _), (4, _), (5, _), (7, _)] rfl ?_
                refine ks_goto (tgt := 13) dX7_cleanCode_92 (by decide) ?_
                refine ks_sub [(0, _), (1, _), (3, _), (4, _), (5, _), (6, _)] rfl ?_
                rw [if_neg (by rintro (h | h); exact h4 h; rw [h] at h5; cases h5), ← List.append_assoc]
                exact ks_sub [(0, _), (1, _), (3, _), (4, _), (5, _), (6, _)] rfl (ih (p + k) (i + 1) T4 (M ++ bytL g p k) (by omega) (by omega) (by omega) (by omega) (by rw [List.length_append, bytL_len]; omega) (hu.trans u4) b4)
  refine ks_of (by decide) rfl rfl (Nat.le_of_ble_eq_true rfl) ?_
  show ks_X l G mX7_cleanCode (d + 2) 0 [(0, .ref 27), (1, .ref y), (2, .int (nI s)), (3, .int (nI e)), (4, .int (nI cnt))] [] S _
  refine ks_aload_n dX7_cleanCode_0 rfl rfl ?_
  refine ks_getf (T := TX7) (kf := 5) kx_648 rfl in_X7 cl_X7 (by decide) hM rfl dX7_cleanCode_1 rfl ?_
  refine ks_callV (n := 0) (M' := mX1_clear) (bf_clear (d := d + 1) hB) (hB.choose_spec.choose_spec.2.2.2.1) cl_X1 rfl kx_1330 kx_843 kx_844 kx_2 kx_845 (by decide +kernel) rfl (by decide) (Nat.le_of_ble_eq_true rfl) rfl dX7_cleanCode_4 rfl (fun r2 T2 q2 => ?_)
  obtain ⟨rfl, u2, b2⟩ := q2
  refine ks_iload_n dX7_cleanCode_7 rfl rfl ?_
  refine ks_istore dX7_cleanCode_8 (by decide) rfl ?_
  refine ks_sub [(5, _), (0, _), (1, _), (2, _), (3, _), (4, _)] rfl ?_
  refine ks_iload_n dX7_cleanCode_10 rfl rfl ?_
  refine ks_istore dX7_cleanCode_11 (by decide) rfl ?_
  refine ks_sub [(6, _), (0, _), (1, _), (2, _), (3, _), (4, _), (5, _)] rfl ?_
  refine ks_sub [(0, _), (1, _), (3, _), (4, _), (5, _), (6, _)] rfl ?_
  have h9 := loop (e - s) s s T2 [] (Nat.le_refl _) (Nat.le_refl _) (Nat.le_refl _) hse (by simpa using hes) u2 b2
  rw [List.nil_append] at h9
  unfold cln_
  rw [bytL_len]
  exact ks_sub [(0, _), (1, _), (3, _), (4, _), (5, _), (6, _)] rfl h9

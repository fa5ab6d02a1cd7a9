/-! MACHINE: run -/
/-- what a script leaves on both stacks; none: it fails. c: what is left of it, bg: from where code is signed, cs: open conditions, the latest first -/
def rnS (GD : List Nat → List Nat → List Nat → Bool) (LK : Int → Bool) : Nat → List Nat → List Nat → Nat → List (List Nat) → List (List Nat) → List Bool → Option (List (List Nat) × List (List Nat))
  | _, [], _, _, xs, ys, cs => if cs = [] then some (xs, ys) else none
  | 0, _ :: _, _, _, _, _, _ => none
  | f + 1, a :: t, bg, ops, xs, ys, cs =>
    match afL (a :: t) with
    | none => none
    | some k =>
      if alwO a (k - hdS a) ops = true then
        (if 99 ≤ a ∧ a ≤ 104 then
          (match brS a xs cs with
          | none => none
          | some q => if 1000 < q.1.length + ys.length then none else rnS GD LK f ((a :: t).drop k) bg (opsN a ops) q.1 ys q.2)
        else if clN cs = 0 then
          (match (if a ≤ 78 then some (((a :: t).take k).drop (hdS a) :: xs, ys) else if 172 ≤ a ∧ a ≤ 175 then akS GD a xs ys (opsN a ops) bg else if a = 166 ∨ (168 ≤ a ∧ a ≤ 170) then htS a xs ys else pfS LK a xs ys) with
          | none => none
          | some q => if 1000 < q.1.length + q.2.length then none else rnS GD LK f ((a :: t).drop k) (if a = 171 then (a :: t).drop k else bg) (if 172 ≤ a ∧ a ≤ 175 then akO a xs (opsN a ops) else opsN a ops) q.1 q.2 cs)
        else rnS GD LK f ((a :: t).drop k) bg (opsN a ops) xs ys cs)
      else none
abbrev LRn : List Nat := [36, 27, 37, 38, 14, 16, 18, 19, 8, 9, 10, 11, 28, 39, 40, 29, 30, 31, 32, 33, 34, 35]
def cdR (S : ks_S) (cy Nc till : Nat) (gc : Nat → Nat) : Prop := ∃ g1, kO g1 ∧ S.2.2 cy = some (kB Nc g1) ∧ ∀ j, j < till → g1 j = gc j
theorem cdR.step {S S2 : ks_S} {cy Nc till u : Nat} {gc : Nat → Nat} {L : List Nat} (h : cdR S cy Nc till gc) (hv : stV L S S2 u) (hc : cy ∉ L ∨ (cy = 30 ∧ Nc = 24096 ∧ till ≤ u)) : cdR S2 cy Nc till gc := by
  obtain ⟨g1, h1, h2, h3⟩ := h
  rcases hc with hc | ⟨rfl, rfl, hc⟩
  · exact ⟨g1, h1, hv.1.at h2 hc, h3⟩
  · obtain ⟨g2, a1, a2, a3⟩ := hv.2 g1 h2 h1
    exact ⟨g2, a2, a1, fun j hj => (a3 j (by omega)).trans (h3 j hj)⟩
/-- what holds before each operation -/
def rnI (S S1 : ks_S) (inp cy till Nc : Nat) (gc : Nat → Nat) (u0 fr pos pb ops : Nat) (xs ys : List (List Nat)) (cs : List Bool) (u : Nat) : Prop :=
  stV LRn S S1 u0 ∧ mcW S1 ∧ st_ok S1 xs ys u ∧ cdX S1 cs ∧ cdR S1 cy Nc till gc ∧ (∃ i1 i2 i3 i4, S1.2.2 27 = some (mcO inp cy pos till pb ops cs.length (clN cs) i1 i2 i3 i4)) ∧ u0 ≤ u ∧ u ≤ u0 + (pos - fr) + 32 * ops ∧ ops ≤ 201 ∧ cs.length ≤ ops ∧ xs.length + ys.length ≤ 1000 ∧ fr ≤ pb ∧ pb ≤ pos ∧ pos ≤ till
/-- what holds where it fails -/
def rnF (S S1 : ks_S) (inp : Nat) : Prop := ks_up S S1 LRn ∧ mcW S1 ∧ (∃ xs ys u, st_ok S1 xs ys u) ∧ (∃ dn, S1.2.2 36 = some (kZ 202 dn)) ∧ ∃ vc j1 j2 j3 j4 j5 j6 i1 i2 i3 i4, S1.2.2 27 = some (.inr (10, [.ref 28, .ref 7, .ref 14, .ref 29, .ref 36, .ref 37, .ref 39, .ref 20, .int (nI inp), vc, .int j1, .int j2, .int j3, .int j4, .int j5, .int j6, .int i1, .int i2, .int i3, .int i4]))
theorem cdX.row {S : ks_S} {cs : List Bool} (h : cdX S cs) : ∃ dn, S.2.2 36 = some (kZ 202 dn) := by
  obtain ⟨dn, h1, _⟩ := h
  exact ⟨dn, h1⟩
theorem brS_len {op : Nat} {xs : List (List Nat)} {cs : List Bool} {q : List (List Nat) × List Bool} (h : brS op xs cs = some q) : q.2.length ≤ cs.length + 1 := by
  unfold brS at h
  split at h
  · split at h
    · split at h
      · cases h
      · cases h; simp
    · cases h; simp
  · split at h
    · cases h
    · split at h <;> (cases h; simp <;> omega)
theorem akO_b {GD : List Nat → List Nat → List Nat → Bool} {op ops : Nat} {xs ys : List (List Nat)} {c : List Nat} {q : List (List Nat) × List (List Nat)} (h : akS GD op xs ys ops c = some q) (ho : ops ≤ 201) : akO op xs ops ≤ 201 ∧ ops ≤ akO op xs ops := by
  unfold akO
  split
  · exact ⟨ho, Nat.le_refl _⟩
  · next h1 =>
    cases hg : gmS xs ops with
    | none => exact ⟨ho, Nat.le_refl _⟩
    | some p => exact ⟨(gmS_b hg).2.2, Nat.le_add_right _ _⟩
set_option maxRecDepth 100000 in
set_option maxHeartbeats 800000 in
theorem l_rn267n {l : Launch} {G : ks_G} {d : Nat} {S : ks_S} {fr till i : Nat} {vcy : Value} {P : Option Value → ks_S → Prop} (h : P (some (.int (ks_bo false))) S) : ks_X l G mX7_run (d + 6) 267 [(0, .ref 27), (1, vcy), (2, .int (nI fr)), (3, .int (nI till)), (4, .int (nI i)), (8, .int (ks_bo false))] [] S P := by
  refine ks_iload dX7_run_267 rfl rfl ?_
  refine ks_if_eqZ (tgt := 282) dX7_run_269 (by decide) rfl (fun h1 => ?_) (fun h1 => ?_)
  · refine ks_iconst (x := nI 0) dX7_run_282 (by decide) rfl ?_
    refine ks_zret rfl rfl dX7_run_283 ?_
    exact h
  · exact absurd h1 (by decide)
set_option maxRecDepth 100000 in
set_option maxHeartbeats 800000 in
theorem l_rn267 {l : Launch} {G : ks_G} {d : Nat} {S : ks_S} {fr till i u : Nat} {vcy : Value} {xs ys : List (List Nat)} {j1 j2 j3 j4 j5 j6 j7 j8 i1 i2 i3 i4 : Value} {P : Option Value → ks_S → Prop} (hM : S.2.2 27 = some (.inr (10, [.ref 28, .ref 7, .ref 14, .ref 29, .ref 36, .ref 37, .ref 39, .ref 20, j1, j2, j3, j4, j5, j6, j7, j8, i1, i2, i3, i4]))) (hO : st_ok S xs ys u) (h1 : 1000 < xs.length + ys.length → P (some (.int (ks_bo false))) S) (h2 : xs.length + ys.length ≤ 1000 → ks_X l G mX7_run (d + 6) 284 [(0, .ref 27), (1, vcy), (2, .int (nI fr)), (3, .int (nI till)), (4, .int (nI i))] [] S P) : ks_X l G mX7_run (d + 6) 267 [(0, .ref 27), (1, vcy), (2, .int (nI fr)), (3, .int (nI till)), (4, .int (nI i)), (8, .int (ks_bo true))] [] S P := by
  refine ks_iload dX7_run_267 rfl rfl ?_
  refine ks_if_eqZ (tgt := 282) dX7_run_269 (by decide) rfl (fun h3 => ?_) (fun h3 => ?_)
  · exact absurd h3 (by decide)
  · refine ks_aload_n dX7_run_272 rfl rfl ?_
    refine ks_getf (T := TX7) (kf := 3) kx_646 rfl in_X7 cl_X7 (by decide) hM rfl dX7_run_273 rfl ?_
    refine ks_callV (n := 0) (M' := mX8_isTooHigh) (c_st_isTooHigh (d := d + 5) hO) hO.ob cl_X8 rfl kx_1716 kx_1717 kx_1718 kx_25 kx_1719 (by decide +kernel) rfl (by decide) (Nat.le_of_ble_eq_true rfl) rfl dX7_run_276 rfl (fun z1 T1 y1 => ?_)
    obtain ⟨rfl, hT⟩ := y1
    obtain rfl := hT.symm
    refine ks_if_eqZ (tgt := 284) dX7_run_279 (by decide) rfl (fun h4 => ?_) (fun h4 => ?_)
    · have := of_decide_eq_false h4
      refine ks_sub [(0, _), (1, _), (2, _), (3, _), (4, _)] rfl ?_
      exact h2 (by omega)
    · refine ks_iconst (x := nI 0) dX7_run_282 (by decide) rfl ?_
      refine ks_zret rfl rfl dX7_run_283 ?_
      exact h1 (of_decide_eq_true h4)
set_option maxRecDepth 100000 in
set_option maxHeartbeats 800000 in
theorem l_rnStep {l : Launch} {G : ks_G} {d : Nat} {S : ks_S} {inp cy till Nc u0 fr : Nat} {gc : Nat → Nat} {y9 N9 L9 b9 k9 p9 m9 u9 e9 : Nat} {g9 : Nat → Nat} (hma : mathOK) (hV : tv_ok S y9 g9 L9 b9 k9 p9 m9 u9 e9) (hy9 : S.2.2 y9 = some (kB N9 g9)) (hg9 : kO g9) (hL9 : L9 ≤ N9) (hN9 : N9 < 2 ^ 18) (hi9 : inp < k9) (he9 : e9 ≤ u9 + 4000) (hyn : 56 ≤ y9) (hK : ks_stOK S) (hcy : cy ∉ LRn ∨ (cy = 30 ∧ Nc = 24096 ∧ till ≤ u0)) (hNc : Nc < 2 ^ 20) (hti : till ≤ Nc) (h16 : till - fr ≤ 1600) (hbu : u0 + (till - fr) + 6432 ≤ 24096) {P : Option Value → ks_S → Prop} {S1 : ks_S} {i f pos pb ops u : Nat} {xs ys : List (List Nat)} {cs : List Bool} (hI : rnI S S1 inp cy till Nc gc u0 fr pos pb ops xs ys cs u) (hpt : pos < till) (hi : i ≤ pos) (hnx : ∀ (S2 : ks_S) (pos2 pb2 ops2 u2 : Nat) (xs2 ys2 : List (List Nat)) (cs2 : List Bool), pos < pos2 → rnI S S2 inp cy till Nc gc u0 fr pos2 pb2 ops2 xs2 ys2 cs2 u2 → rnS (fun code k s => ecG k s (sgH g9 L9 b9 k9 p9 m9 u9 e9 inp (s.getD (s.length - 1) 0) code)) (lkB g9 L9 p9 e9 inp) (f + 1) (bytL gc pos (till - pos)) (bytL gc pb (till - pb)) ops xs ys cs = rnS (fun code k s => ecG k s (sgH g9 L9 b9 k9 p9 m9 u9 e9 inp (s.getD (s.length - 1) 0) code)) (lkB g9 L9 p9 e9 inp) f (bytL gc pos2 (till - pos2)) (bytL gc pb2 (till - pb2)) ops2 xs2 ys2 cs2 → ks_X l G mX7_run (d + 6) 284 [(0, .ref 27), (1, .ref cy), (2, .int (nI fr)), (3, .int (nI till)), (4, .int (nI i))] [] S2 P) (hno : ∀ S2 : ks_S, rnF S S2 inp → rnS (fun code k s => ecG k s (sgH g9 L9 b9 k9 p9 m9 u9 e9 inp (s.getD (s.length - 1) 0) code)) (lkB g9 L9 p9 e9 inp) (f + 1) (bytL gc pos (till - pos)) (bytL gc pb (till - pb)) ops xs ys cs = none → P (some (.int (ks_bo false))) S2) : ks_X l G mX7_run (d + 6) 59 [(0, .ref 27), (1, .ref cy), (2, .int (nI fr)), (3, .int (nI till)), (4, .int (nI i))] [] S1 P := by
  have hcl9 := clN_le cs
  obtain ⟨hv, hW, hO, hX, ⟨g1, kg1, hg1, eg1⟩, ⟨i1, i2, i3, i4, hM⟩, hu0, hub, ho2, hcs, hl, hfb, hbp, hpt2⟩ := hI
  have bd := hO.bd
  have eB : ∀ p, bytL g1 p (till - p) = bytL gc p (till - p) := fun p => bytL_congr (fun j hj => eg1 _ (by omega))
  have fail : rnF S S1 inp := ⟨hv.1, hW, ⟨xs, ys, u, hO⟩, hX.row, _, _, _, _, _, _, _, _, _, _, _, hM⟩
  have eC : bytL gc pos (till - pos) = g1 pos :: bytL gc (pos + 1) (till - pos - 1) := by
    rw [show till - pos = (till - pos - 1) + 1 by omega, bytL_cons, eg1 pos hpt]
    rfl
  have hop : g1 pos < 256 := kg1 pos
  obtain ⟨r, hr⟩ : ∃ r, rnS (fun code k s => ecG k s (sgH g9 L9 b9 k9 p9 m9 u9 e9 inp (s.getD (s.length - 1) 0) code)) (lkB g9 L9 p9 e9 inp) (f + 1) (bytL gc pos (till - pos)) (bytL gc pb (till - pb)) ops xs ys cs = r := ⟨_, rfl⟩
  rw [hr] at hnx hno
  rw [eC, rnS, ← eC] at hr
  have hc27 : 27 ≠ cy := fun e => by subst e; rcases hcy with h | h; exact h (by decide); exact absurd h.1 (by decide)
  have hc29 : cy ≠ 29 := fun e => by subst e; rcases hcy with h | h; exact h (by decide); exact absurd h.1 (by decide)
  have hc38 : cy ∉ ([38, 37] : List Nat) := fun e => by rcases hcy with h | h; (exact h (by simp only [List.mem_cons, List.not_mem_nil, or_false] at e ⊢; omega)); (rw [h.1] at e; exact absurd e (by decide))
  refine ks_aload_n dX7_run_59 rfl rfl ?_
  refine ks_getf (T := TX7) (kf := 9) kx_652 rfl in_X7 cl_X7 (by decide) hM rfl dX7_run_60 rfl ?_
  refine ks_aload_n dX7_run_63 rfl rfl ?_
  refine ks_getf (T := TX7) (kf := 10) kx_653 rfl in_X7 cl_X7 (by decide) hM rfl dX7_run_64 rfl ?_
  refine ks_aload_n dX7_run_67 rfl rfl ?_
  refine ks_getf (T := TX7) (kf := 11) kx_654 rfl in_X7 cl_X7 (by decide) hM rfl dX7_run_68 rfl ?_
  refine ks_callS (n := 3) (M' := mX7_after) (c_after (d := d + 4) hg1 kg1 hNc hti hpt) kx_1331 kx_1332 kx_24 kx_1333 (by decide +kernel) rfl (by decide) (Nat.le_of_ble_eq_true rfl) rfl dX7_run_71 rfl (fun z1 T1 y1 => ?_)
  obtain ⟨rfl, hT⟩ := y1
  obtain rfl := hT.symm
  rcases aftI_cases g1 pos till with ⟨ha, e1⟩ | ⟨k, ha, e1, k1, k2, k3⟩
  · rw [e1]
    rw [eB] at ha
    rw [ha] at hr
    refine ks_istore dX7_run_74 (by decide) rfl ?_
    refine ks_sub [(5, _), (0, _), (1, _), (2, _), (3, _), (4, _)] rfl ?_
    refine ks_iload dX7_run_76 rfl rfl ?_
    refine ks_if_ge (tgt := 83) dX7_run_78 (by decide) rfl (fun h2 => ?_) (fun h2 => ?_)
    · exact absurd h2 (by decide)
    · refine ks_iconst (x := nI 0) dX7_run_81 (by decide) rfl ?_
      refine ks_zret rfl rfl dX7_run_82 ?_
      exact hno _ fail hr.symm
  · rw [e1]
    rw [eB] at ha
    rw [ha] at hr
    simp only [] at hr
    refine ks_istore dX7_run_74 (by decide) rfl ?_
    refine ks_sub [(5, _), (0, _), (1, _), (2, _), (3, _), (4, _)] rfl ?_
    refine ks_iload dX7_run_76 rfl rfl ?_
    refine ks_if_geN (tgt := 83) (by omega) dX7_run_78 (by decide) ?_
    refine ks_aload_n dX7_run_83 rfl rfl ?_
    refine ks_getf (T := TX7) (kf := 9) kx_652 rfl in_X7 cl_X7 (by decide) hM rfl dX7_run_84 rfl ?_
    refine ks_aload_n dX7_run_87 rfl rfl ?_
    refine ks_getf (T := TX7) (kf := 10) kx_653 rfl in_X7 cl_X7 (by decide) hM rfl dX7_run_88 rfl ?_
    refine ks_baldB (i := pos) hg1 rfl (by omega) (by omega) dX7_run_91 rfl ?_
    refine ks_sipush (x := nI 255) dX7_run_92 (by decide) rfl ?_
    refine ks_andB (kg1 _) dX7_run_95 rfl ?_
    have hy95 : g1 pos < 256 := (kg1 _)
    refine ks_istore dX7_run_96 (by decide) rfl ?_
    refine ks_sub [(6, _), (0, _), (1, _), (2, _), (3, _), (4, _), (5, _)] rfl ?_
    refine ks_aload_n dX7_run_98 rfl rfl ?_
    refine ks_getf (T := TX7) (kf := 10) kx_653 rfl in_X7 cl_X7 (by decide) hM rfl dX7_run_99 rfl ?_
    refine ks_iload dX7_run_102 rfl rfl ?_
    refine ks_callS (n := 1) (M' := mX7_headSize) (c_headSize (d := d + 5) hop) kx_1334 kx_1335 kx_24 kx_1336 (by decide +kernel) rfl (by decide) (Nat.le_of_ble_eq_true rfl) rfl dX7_run_104 rfl (fun z2 T2 y2 => ?_)
    obtain ⟨rfl, hT⟩ := y2
    obtain rfl := hT.symm
    refine ks_addN dX7_run_107 rfl ?_
    refine ks_istore dX7_run_108 (by decide) rfl ?_
    refine ks_sub [(7, _), (0, _), (1, _), (2, _), (3, _), (4, _), (5, _), (6, _)] rfl ?_
    refine ks_aload_n dX7_run_110 rfl rfl ?_
    refine ks_iload dX7_run_111 rfl rfl ?_
    refine ks_putf (T := TX7) (kf := 10) kx_653 rfl in_X7 tyX7_ok nmX7 cl_X7 (by decide) hM (Nat.le_of_ble_eq_true rfl) rfl rfl rfl rfl dX7_run_113 rfl ?_
    refine ks_aload_n dX7_run_116 rfl rfl ?_
    refine ks_iload dX7_run_117 rfl rfl ?_
    refine ks_iload dX7_run_119 rfl rfl ?_
    refine ks_iload dX7_run_121 rfl rfl ?_
    refine ks_subN (by omega) dX7_run_123 rfl ?_
    rw [show pos + k - (pos + hdS (g1 pos)) = k - hdS (g1 pos) by omega]
    obtain ⟨Sa, hSa⟩ : ∃ Sa, Sa = ks_set S1 27 (mcO inp cy (pos + k) till pb ops cs.length (clN cs) i1 i2 i3 i4) := ⟨_, rfl⟩
    refine ks_tS (S' := Sa) (by rw [hSa]; rfl) ?_
    have ua : ks_up S1 Sa [27] := by rw [hSa]; exact ks_up_set _ _ (by decide)
    have Ma : Sa.2.2 27 = some (mcO inp cy (pos + k) till pb ops cs.length (clN cs) i1 i2 i3 i4) := by rw [hSa]; exact ks_set_same _ _ _
    refine ks_callV (n := 2) (M' := mX7_isAllowed) (c_isAllowed (d := d + 5) (op := g1 pos) (n := k - hdS (g1 pos)) Ma hop (by omega) (by omega)) Ma cl_X7 rfl kx_1563 kx_1565 kxp_35 kx_24 kx_1566 (by decide +kernel) rfl (by decide) (Nat.le_of_ble_eq_true rfl) rfl dX7_run_124 rfl (fun z3 T3 y3 => ?_)
    obtain ⟨rfl, ub, M3⟩ := y3
    have u3 : ks_up S1 T3 [27] := ua.trans ub
    have v3 : stV LRn S T3 u0 := hv.trans (stV.of u3 (by decide) (by decide)) hu0
    have O3 : st_ok T3 xs ys u := hO.up u3 (by decide)
    have W3 : mcW T3 := hW.up u3 (by decide)
    have X3 : cdX T3 cs := hX.up u3 (by decide)
    have g3 : T3.2.2 cy = some (kB Nc g1) := u3.at hg1 (by intro h; rw [List.mem_singleton] at h; exact hc27 h.symm)
    have R3 : cdR T3 cy Nc till gc := ⟨g1, kg1, g3, eg1⟩
    have fail3 : rnF S T3 inp := ⟨v3.1, W3, ⟨xs, ys, u, O3⟩, X3.row, _, _, _, _, _, _, _, _, _, _, _, M3⟩
    clear fail ua ub Ma hSa
    generalize hope : g1 pos = op at *
    have eD : (bytL gc pos (till - pos)).drop k = bytL gc (pos + k) (till - (pos + k)) := by
      rw [bytL_drop _ _ (by omega), show till - pos - k = till - (pos + k) by omega]
    have eT : ((bytL gc pos (till - pos)).take k).drop (hdS op) = bytL g1 (pos + hdS op) (k - hdS op) := by
      rw [bytL_take _ _ (by omega), bytL_drop _ _ (by omega)]
      exact (bytL_congr (fun j hj => eg1 _ (by omega))).symm
    rw [eD] at hr
    refine ks_if_neZ (tgt := 132) dX7_run_127 (by decide) rfl (fun h3 => ?_) (fun h3 => ?_)
    · rw [if_pos h3] at hr
      have hon : opsN op ops ≤ 201 := by
        unfold alwO at h3
        split at h3
        · next h => unfold opsN; rw [if_neg (by omega)]; exact ho2
        · exact of_decide_eq_true (Bool.and_eq_true_iff.mp h3).1
      have hbad : 78 < op → badO op = false := fun h => by
        unfold alwO at h3
        rw [if_neg (by omega)] at h3
        have := (Bool.and_eq_true_iff.mp h3).2
        cases hb : badO op with
        | false => rfl
        | true => rw [hb] at this; cases this
      have hn520 : op ≤ 78 → k - hdS op ≤ 520 := fun h => by
        unfold alwO at h3
        rw [if_pos h] at h3
        exact of_decide_eq_true h3
      have hoge : ops ≤ opsN op ops := by unfold opsN; split <;> omega
      have hogt : 96 < op → opsN op ops = ops + 1 := fun h => if_pos h
      refine ks_iconst (x := nI 1) dX7_run_132 (by decide) rfl ?_
      refine ks_istore dX7_run_133 (by decide) rfl ?_
      refine ks_sub [(8, _), (0, _), (1, _), (2, _), (3, _), (4, _), (5, _), (6, _), (7, _)] rfl ?_
      refine ks_iload dX7_run_135 rfl rfl ?_
      refine ks_bipush (x := nI 99) dX7_run_137 (by decide) rfl ?_
      refine ks_icmp_ltN (tgt := 160) (by omega) (by decide) dX7_run_139 (by decide) rfl (fun g139 => ?_) (fun g139 => ?_)
      · refine ks_aload_n dX7_run_160 rfl rfl ?_
        refine ks_getf (T := TX7) (kf := 15) kx_658 rfl in_X7 cl_X7 (by decide) M3 rfl dX7_run_161 rfl ?_
        refine ks_if_neN (tgt := 267) (by omega) dX7_run_164 (by decide) rfl (fun g164 => ?_) (fun g164 => ?_)
        · refine ks_sub [(0, _), (1, _), (2, _), (3, _), (4, _), (8, _)] rfl ?_
          rw [if_neg (by omega), if_neg (by omega)] at hr
          exact ks_sub [(0, _), (1, _), (2, _), (3, _), (4, _), (8, .int (ks_bo true))] rfl (l_rn267 M3 O3 (fun h => by omega) (fun h => hnx T3 (pos + k) pb (opsN op ops) u xs ys cs (by omega) ⟨v3, W3, O3, X3, R3, ⟨_, _, _, _, M3⟩, hu0, by omega, hon, by omega, h, hfb, by omega, by omega⟩ hr.symm))
        · refine ks_iload dX7_run_167 rfl rfl ?_
          refine ks_bipush (x := nI 78) dX7_run_169 (by decide) rfl ?_
          refine ks_icmp_gtN (tgt := 197) (by omega) (by decide) dX7_run_171 (by decide) rfl (fun g171 => ?_) (fun g171 => ?_)
          · refine ks_iload dX7_run_197 rfl rfl ?_
            refine ks_sipush (x := nI 172) dX7_run_199 (by decide) rfl ?_
            refine ks_icmp_ltN (tgt := 224) (by omega) (by decide) dX7_run_202 (by decide) rfl (fun g202 => ?_) (fun g202 => ?_)
            · refine ks_iload dX7_run_224 rfl rfl ?_
              refine ks_sipush (x := nI 166) dX7_run_226 (by decide) rfl ?_
              refine ks_icmp_eqN (tgt := 248) (by omega) (by decide) dX7_run_229 (by decide) rfl (fun g229 => ?_) (fun g229 => ?_)
              · refine ks_aload_n dX7_run_248 rfl rfl ?_
                refine ks_iload dX7_run_249 rfl rfl ?_
                rw [if_neg (by omega), if_pos (by omega)] at hr
                rw [if_neg (by omega), if_neg (by omega), if_pos (by omega)] at hr
                obtain ⟨wc, wh, ⟨g28, kg28, w28⟩, wi, wl⟩ := id W3
                refine ks_callV (n := 1) (M' := mX7_hashTop) (c_mc_hashTop (d := d + 1) (op := op) M3 O3 (by omega) wh w28 kg28 (v3.1.st hK (by unfold ks_B; decide)) (by have := hogt (by omega); omega)) M3 cl_X7 rfl kx_1648 kx_1650 kxp_42 kx_24 kx_1651 (by decide +kernel) rfl (by decide) (Nat.le_of_ble_eq_true rfl) rfl dX7_run_251 rfl (fun z4 T4 y4 => ?_)
                obtain ⟨y4, H4, g2, kg2, w2⟩ := y4
                cases hak : htS op xs ys with
                | none =>
                  rw [hak] at y4 hr
                  obtain ⟨rfl, v4, O4⟩ := y4
                  obtain ⟨obi, wi⟩ := wi
                  obtain ⟨obl, wl⟩ := wl
                  have W4 : mcW T4 := ⟨wc.up v4 (by decide), H4, ⟨g2, kg2, w2⟩, ⟨obi, wi.up v4 (by decide) (by decide)⟩, obl, wl.up v4 (by decide) (by decide)⟩
                  have M4 := v4.at M3 (by decide)
                  obtain ⟨xs4, ys4, u4, O4⟩ := O4
                  have X4 := X3.up v4 (by decide)
                  refine ks_istore dX7_run_254 (by decide) rfl ?_
                  refine ks_sub [(8, _), (0, _), (1, _), (2, _), (3, _), (4, _), (5, _), (6, _), (7, _)] rfl ?_
                  refine ks_goto (tgt := 267) dX7_run_256 (by decide) ?_
                  refine ks_sub [(0, _), (1, _), (2, _), (3, _), (4, _), (8, _)] rfl ?_
                  exact l_rn267n (hno _ ⟨v3.1.trans (v4.mono (by decide)), W4, ⟨_, _, _, O4⟩, X4.row, _, _, _, _, _, _, _, _, _, _, _, M4⟩ hr.symm)
                | some q =>
                  rw [hak] at y4 hr
                  obtain ⟨rfl, v4, u4, l4, m4, O4⟩ := y4
                  simp only [] at hr
                  obtain ⟨obi, wi⟩ := wi
                  obtain ⟨obl, wl⟩ := wl
                  have W4 : mcW T4 := ⟨wc.up v4.1 (by decide), H4, ⟨g2, kg2, w2⟩, ⟨obi, wi.up v4.1 (by decide) (by decide)⟩, obl, wl.up v4.1 (by decide) (by decide)⟩
                  have M4 := v4.1.at M3 (by decide)
                  have X4 := X3.up v4.1 (by decide)
                  have v4' : stV LRn T3 T4 u := ⟨v4.1.mono (by decide), v4.2⟩
                  have s4 := v3.trans v4' hu0
                  refine ks_istore dX7_run_254 (by decide) rfl ?_
                  refine ks_sub [(8, _), (0, _), (1, _), (2, _), (3, _), (4, _), (5, _), (6, _), (7, _)] rfl ?_
                  refine ks_goto (tgt := 267) dX7_run_256 (by decide) ?_
                  refine ks_sub [(0, _), (1, _), (2, _), (3, _), (4, _), (8, _)] rfl ?_
                  refine l_rn267 M4 O4 (fun h => ?_) (fun h => ?_)
                  · rw [if_pos h] at hr
                    exact hno _ ⟨s4.1, W4, ⟨_, _, _, O4⟩, X4.row, _, _, _, _, _, _, _, _, _, _, _, M4⟩ hr.symm
                  · rw [if_neg (by omega)] at hr
                    have h1 := hogt (by omega)
                    rw [if_neg (by omega), if_neg (by omega)] at hr
                    exact hnx T4 (pos + k) pb (opsN op ops) u4 q.1 q.2 cs (by omega) ⟨s4, W4, O4, X4, R3.step v4' (by rcases hcy with h | h; exact Or.inl h; exact Or.inr ⟨h.1, h.2.1, by omega⟩), ⟨_, _, _, _, M4⟩, by omega, by omega, hon, by omega, h, hfb, by omega, by omega⟩ hr.symm
              · refine ks_iload dX7_run_232 rfl rfl ?_
                refine ks_sipush (x := nI 168) dX7_run_234 (by decide) rfl ?_
                refine ks_icmp_ltN (tgt := 259) (by omega) (by decide) dX7_run_237 (by decide) rfl (fun g237 => ?_) (fun g237 => ?_)
                · refine ks_aload_n dX7_run_259 rfl rfl ?_
                  refine ks_iload dX7_run_260 rfl rfl ?_
                  rw [if_neg (by omega), if_pos (by omega)] at hr
                  rw [if_neg (by omega), if_neg (by omega), if_neg (by omega)] at hr
                  refine ks_callV (n := 1) (M' := mX7_perform) (c_mc_perform (d := d + 1) (op := op) M3 O3 (hV.up v3.1 (by decide)) (v3.1.at hy9 (by simp only [List.mem_cons, List.not_mem_nil, or_false, not_or]; omega)) hg9 hL9 hN9 hi9 (v3.1.st hK (by unfold ks_B; decide)) hop (by omega) (by omega) (by unfold gB; split; omega; have := hogt (by omega); omega)) M3 cl_X7 rfl kx_1653 kx_1655 kxp_43 kx_24 kx_1656 (by decide +kernel) rfl (by decide) (Nat.le_of_ble_eq_true rfl) rfl dX7_run_262 rfl (fun z4 T4 y4 => ?_)
                  obtain ⟨y4, M4⟩ := y4
                  cases hak : pfS (lkB g9 L9 p9 e9 inp) op xs ys with
                  | none =>
                    rw [hak] at y4 hr
                    obtain ⟨rfl, v4, O4⟩ := y4
                    have W4 : mcW T4 := W3.up v4 (by decide)
                    obtain ⟨xs4, ys4, u4, O4⟩ := O4
                    have X4 := X3.up v4 (by decide)
                    refine ks_istore dX7_run_265 (by decide) rfl ?_
                    refine ks_sub [(8, _), (0, _), (1, _), (2, _), (3, _), (4, _), (5, _), (6, _), (7, _)] rfl ?_
                    refine ks_sub [(0, _), (1, _), (2, _), (3, _), (4, _), (8, _)] rfl ?_
                    exact l_rn267n (hno _ ⟨v3.1.trans (v4.mono (by decide)), W4, ⟨_, _, _, O4⟩, X4.row, _, _, _, _, _, _, _, _, _, _, _, M4⟩ hr.symm)
                  | some q =>
                    rw [hak] at y4 hr
                    obtain ⟨rfl, v4, u4, l4, m4, O4⟩ := y4
                    simp only [] at hr
                    have W4 : mcW T4 := W3.up v4.1 (by decide)
                    have hgB : gB op ≤ k + 32 * (opsN op ops - ops) := by unfold gB; split; omega; have := hogt (by omega); omega
                    have X4 := X3.up v4.1 (by decide)
                    have v4' : stV LRn T3 T4 u := ⟨v4.1.mono (by decide), v4.2⟩
                    have s4 := v3.trans v4' hu0
                    refine ks_istore dX7_run_265 (by decide) rfl ?_
                    refine ks_sub [(8, _), (0, _), (1, _), (2, _), (3, _), (4, _), (5, _), (6, _), (7, _)] rfl ?_
                    refine ks_sub [(0, _), (1, _), (2, _), (3, _), (4, _), (8, _)] rfl ?_
                    refine l_rn267 M4 O4 (fun h => ?_) (fun h => ?_)
                    · rw [if_pos h] at hr
                      exact hno _ ⟨s4.1, W4, ⟨_, _, _, O4⟩, X4.row, _, _, _, _, _, _, _, _, _, _, _, M4⟩ hr.symm
                    · rw [if_neg (by omega)] at hr
                      refine hnx T4 (pos + k) (if op = 171 then pos + k else pb) (opsN op ops) u4 q.1 q.2 cs (by omega) ⟨s4, W4, O4, X4, R3.step v4' (by rcases hcy with h | h; exact Or.inl h; exact Or.inr ⟨h.1, h.2.1, by omega⟩), ⟨_, _, _, _, M4⟩, by omega, by omega, hon, by omega, h, by split <;> omega, by split <;> omega, by omega⟩ ?_
                      rw [if_neg (show ¬ (172 ≤ op ∧ op ≤ 175) by omega)] at hr
                      rw [← hr]
                      split <;> rfl
                · refine ks_iload dX7_run_240 rfl rfl ?_
                  refine ks_sipush (x := nI 170) dX7_run_242 (by decide) rfl ?_
                  refine ks_icmp_gtN (tgt := 259) (by omega) (by decide) dX7_run_245 (by decide) rfl (fun g245 => ?_) (fun g245 => ?_)
                  · refine ks_aload_n dX7_run_259 rfl rfl ?_
                    refine ks_iload dX7_run_260 rfl rfl ?_
                    rw [if_neg (by omega), if_pos (by omega)] at hr
                    rw [if_neg (by omega), if_neg (by omega), if_neg (by omega)] at hr
                    refine ks_callV (n := 1) (M' := mX7_perform) (c_mc_perform (d := d + 1) (op := op) M3 O3 (hV.up v3.1 (by decide)) (v3.1.at hy9 (by simp only [List.mem_cons, List.not_mem_nil, or_false, not_or]; omega)) hg9 hL9 hN9 hi9 (v3.1.st hK (by unfold ks_B; decide)) hop (by omega) (by omega) (by unfold gB; split; omega; have := hogt (by omega); omega)) M3 cl_X7 rfl kx_1653 kx_1655 kxp_43 kx_24 kx_1656 (by decide +kernel) rfl (by decide) (Nat.le_of_ble_eq_true rfl) rfl dX7_run_262 rfl (fun z4 T4 y4 => ?_)
                    obtain ⟨y4, M4⟩ := y4
                    cases hak : pfS (lkB g9 L9 p9 e9 inp) op xs ys with
                    | none =>
                      rw [hak] at y4 hr
                      obtain ⟨rfl, v4, O4⟩ := y4
                      have W4 : mcW T4 := W3.up v4 (by decide)
                      obtain ⟨xs4, ys4, u4, O4⟩ := O4
                      have X4 := X3.up v4 (by decide)
                      refine ks_istore dX7_run_265 (by decide) rfl ?_
                      refine ks_sub [(8, _), (0, _), (1, _), (2, _), (3, _), (4, _), (5, _), (6, _), (7, _)] rfl ?_
                      refine ks_sub [(0, _), (1, _), (2, _), (3, _), (4, _), (8, _)] rfl ?_
                      exact l_rn267n (hno _ ⟨v3.1.trans (v4.mono (by decide)), W4, ⟨_, _, _, O4⟩, X4.row, _, _, _, _, _, _, _, _, _, _, _, M4⟩ hr.symm)
                    | some q =>
                      rw [hak] at y4 hr
                      obtain ⟨rfl, v4, u4, l4, m4, O4⟩ := y4
                      simp only [] at hr
                      have W4 : mcW T4 := W3.up v4.1 (by decide)
                      have hgB : gB op ≤ k + 32 * (opsN op ops - ops) := by unfold gB; split; omega; have := hogt (by omega); omega
                      have X4 := X3.up v4.1 (by decide)
                      have v4' : stV LRn T3 T4 u := ⟨v4.1.mono (by decide), v4.2⟩
                      have s4 := v3.trans v4' hu0
                      refine ks_istore dX7_run_265 (by decide) rfl ?_
                      refine ks_sub [(8, _), (0, _), (1, _), (2, _), (3, _), (4, _), (5, _), (6, _), (7, _)] rfl ?_
                      refine ks_sub [(0, _), (1, _), (2, _), (3, _), (4, _), (8, _)] rfl ?_
                      refine l_rn267 M4 O4 (fun h => ?_) (fun h => ?_)
                      · rw [if_pos h] at hr
                        exact hno _ ⟨s4.1, W4, ⟨_, _, _, O4⟩, X4.row, _, _, _, _, _, _, _, _, _, _, _, M4⟩ hr.symm
                      · rw [if_neg (by omega)] at hr
                        refine hnx T4 (pos + k) (if op = 171 then pos + k else pb) (opsN op ops) u4 q.1 q.2 cs (by omega) ⟨s4, W4, O4, X4, R3.step v4' (by rcases hcy with h | h; exact Or.inl h; exact Or.inr ⟨h.1, h.2.1, by omega⟩), ⟨_, _, _, _, M4⟩, by omega, by omega, hon, by omega, h, by split <;> omega, by split <;> omega, by omega⟩ ?_
                        rw [if_neg (show ¬ (172 ≤ op ∧ op ≤ 175) by omega)] at hr
                        rw [← hr]
                        split <;> rfl
                  · refine ks_aload_n dX7_run_248 rfl rfl ?_
                    refine ks_iload dX7_run_249 rfl rfl ?_
                    rw [if_neg (by omega), if_pos (by omega)] at hr
                    rw [if_neg (by omega), if_neg (by omega), if_pos (by omega)] at hr
                    obtain ⟨wc, wh, ⟨g28, kg28, w28⟩, wi, wl⟩ := id W3
                    refine ks_callV (n := 1) (M' := mX7_hashTop) (c_mc_hashTop (d := d + 1) (op := op) M3 O3 (by omega) wh w28 kg28 (v3.1.st hK (by unfold ks_B; decide)) (by have := hogt (by omega); omega)) M3 cl_X7 rfl kx_1648 kx_1650 kxp_42 kx_24 kx_1651 (by decide +kernel) rfl (by decide) (Nat.le_of_ble_eq_true rfl) rfl dX7_run_251 rfl (fun z4 T4 y4 => ?_)
                    obtain ⟨y4, H4, g2, kg2, w2⟩ := y4
                    cases hak : htS op xs ys with
                    | none =>
                      rw [hak] at y4 hr
                      obtain ⟨rfl, v4, O4⟩ := y4
                      obtain ⟨obi, wi⟩ := wi
                      obtain ⟨obl, wl⟩ := wl
                      have W4 : mcW T4 := ⟨wc.up v4 (by decide), H4, ⟨g2, kg2, w2⟩, ⟨obi, wi.up v4 (by decide) (by decide)⟩, obl, wl.up v4 (by decide) (by decide)⟩
                      have M4 := v4.at M3 (by decide)
                      obtain ⟨xs4, ys4, u4, O4⟩ := O4
                      have X4 := X3.up v4 (by decide)
                      refine ks_istore dX7_run_254 (by decide) rfl ?_
                      refine ks_sub [(8, _), (0, _), (1, _), (2, _), (3, _), (4, _), (5, _), (6, _), (7, _)] rfl ?_
                      refine ks_goto (tgt := 267) dX7_run_256 (by decide) ?_
                      refine ks_sub [(0, _), (1, _), (2, _), (3, _), (4, _), (8, _)] rfl ?_
                      exact l_rn267n (hno _ ⟨v3.1.trans (v4.mono (by decide)), W4, ⟨_, _, _, O4⟩, X4.row, _, _, _, _, _, _, _, _, _, _, _, M4⟩ hr.symm)
                    | some q =>
                      rw [hak] at y4 hr
                      obtain ⟨rfl, v4, u4, l4, m4, O4⟩ := y4
                      simp only [] at hr
                      obtain ⟨obi, wi⟩ := wi
                      obtain ⟨obl, wl⟩ := wl
                      have W4 : mcW T4 := ⟨wc.up v4.1 (by decide), H4, ⟨g2, kg2, w2⟩, ⟨obi, wi.up v4.1 (by decide) (by decide)⟩, obl, wl.up v4.1 (by decide) (by decide)⟩
                      have M4 := v4.1.at M3 (by decide)
                      have X4 := X3.up v4.1 (by decide)
                      have v4' : stV LRn T3 T4 u := ⟨v4.1.mono (by decide), v4.2⟩
                      have s4 := v3.trans v4' hu0
                      refine ks_istore dX7_run_254 (by decide) rfl ?_
                      refine ks_sub [(8, _), (0, _), (1, _), (2, _), (3, _), (4, _), (5, _), (6, _), (7, _)] rfl ?_
                      refine ks_goto (tgt := 267) dX7_run_256 (by decide) ?_
                      refine ks_sub [(0, _), (1, _), (2, _), (3, _), (4, _), (8, _)] rfl ?_
                      refine l_rn267 M4 O4 (fun h => ?_) (fun h => ?_)
                      · rw [if_pos h] at hr
                        exact hno _ ⟨s4.1, W4, ⟨_, _, _, O4⟩, X4.row, _, _, _, _, _, _, _, _, _, _, _, M4⟩ hr.symm
                      · rw [if_neg (by omega)] at hr
                        have h1 := hogt (by omega)
                        rw [if_neg (by omega), if_neg (by omega)] at hr
                        exact hnx T4 (pos + k) pb (opsN op ops) u4 q.1 q.2 cs (by omega) ⟨s4, W4, O4, X4, R3.step v4' (by rcases hcy with h | h; exact Or.inl h; exact Or.inr ⟨h.1, h.2.1, by omega⟩), ⟨_, _, _, _, M4⟩, by omega, by omega, hon, by omega, h, hfb, by omega, by omega⟩ hr.symm
            · refine ks_iload dX7_run_205 rfl rfl ?_
              refine ks_sipush (x := nI 175) dX7_run_207 (by decide) rfl ?_
              refine ks_icmp_gtN (tgt := 224) (by omega) (by decide) dX7_run_210 (by decide) rfl (fun g210 => ?_) (fun g210 => ?_)
              · refine ks_iload dX7_run_224 rfl rfl ?_
                refine ks_sipush (x := nI 166) dX7_run_226 (by decide) rfl ?_
                refine ks_icmp_eqN (tgt := 248) (by omega) (by decide) dX7_run_229 (by decide) rfl (fun g229 => ?_) (fun g229 => ?_)
                · refine ks_aload_n dX7_run_248 rfl rfl ?_
                  refine ks_iload dX7_run_249 rfl rfl ?_
                  rw [if_neg (by omega), if_pos (by omega)] at hr
                  rw [if_neg (by omega), if_neg (by omega), if_pos (by omega)] at hr
                  obtain ⟨wc, wh, ⟨g28, kg28, w28⟩, wi, wl⟩ := id W3
                  refine ks_callV (n := 1) (M' := mX7_hashTop) (c_mc_hashTop (d := d + 1) (op := op) M3 O3 (by omega) wh w28 kg28 (v3.1.st hK (by unfold ks_B; decide)) (by have := hogt (by omega); omega)) M3 cl_X7 rfl kx_1648 kx_1650 kxp_42 kx_24 kx_1651 (by decide +kernel) rfl (by decide) (Nat.le_of_ble_eq_true rfl) rfl dX7_run_251 rfl (fun z4 T4 y4 => ?_)
                  obtain ⟨y4, H4, g2, kg2, w2⟩ := y4
                  cases hak : htS op xs ys with
                  | none =>
                    rw [hak] at y4 hr
                    obtain ⟨rfl, v4, O4⟩ := y4
                    obtain ⟨obi, wi⟩ := wi
                    obtain ⟨obl, wl⟩ := wl
                    have W4 : mcW T4 := ⟨wc.up v4 (by decide), H4, ⟨g2, kg2, w2⟩, ⟨obi, wi.up v4 (by decide) (by decide)⟩, obl, wl.up v4 (by decide) (by decide)⟩
                    have M4 := v4.at M3 (by decide)
                    obtain ⟨xs4, ys4, u4, O4⟩ := O4
                    have X4 := X3.up v4 (by decide)
                    refine ks_istore dX7_run_254 (by decide) rfl ?_
                    refine ks_sub [(8, _), (0, _), (1, _), (2, _), (3, _), (4, _), (5, _), (6, _), (7, _)] rfl ?_
                    refine ks_goto (tgt := 267) dX7_run_256 (by decide) ?_
                    refine ks_sub [(0, _), (1, _), (2, _), (3, _), (4, _), (8, _)] rfl ?_
                    exact l_rn267n (hno _ ⟨v3.1.trans (v4.mono (by decide)), W4, ⟨_, _, _, O4⟩, X4.row, _, _, _, _, _, _, _, _, _, _, _, M4⟩ hr.symm)
                  | some q =>
                    rw [hak] at y4 hr
                    obtain ⟨rfl, v4, u4, l4, m4, O4⟩ := y4
                    simp only [] at hr
                    obtain ⟨obi, wi⟩ := wi
                    obtain ⟨obl, wl⟩ := wl
                    have W4 : mcW T4 := ⟨wc.up v4.1 (by decide), H4, ⟨g2, kg2, w2⟩, ⟨obi, wi.up v4.1 (by decide) (by decide)⟩, obl, wl.up v4.1 (by decide) (by decide)⟩
                    have M4 := v4.1.at M3 (by decide)
                    have X4 := X3.up v4.1 (by decide)
                    have v4' : stV LRn T3 T4 u := ⟨v4.1.mono (by decide), v4.2⟩
                    have s4 := v3.trans v4' hu0
                    refine ks_istore dX7_run_254 (by decide) rfl ?_
                    refine ks_sub [(8, _), (0, _), (1, _), (2, _), (3, _), (4, _), (5, _), (6, _), (7, _)] rfl ?_
                    refine ks_goto (tgt := 267) dX7_run_256 (by decide) ?_
                    refine ks_sub [(0, _), (1, _), (2, _), (3, _), (4, _), (8, _)] rfl ?_
                    refine l_rn267 M4 O4 (fun h => ?_) (fun h => ?_)
                    · rw [if_pos h] at hr
                      exact hno _ ⟨s4.1, W4, ⟨_, _, _, O4⟩, X4.row, _, _, _, _, _, _, _, _, _, _, _, M4⟩ hr.symm
                    · rw [if_neg (by omega)] at hr
                      have h1 := hogt (by omega)
                      rw [if_neg (by omega), if_neg (by omega)] at hr
                      exact hnx T4 (pos + k) pb (opsN op ops) u4 q.1 q.2 cs (by omega) ⟨s4, W4, O4, X4, R3.step v4' (by rcases hcy with h | h; exact Or.inl h; exact Or.inr ⟨h.1, h.2.1, by omega⟩), ⟨_, _, _, _, M4⟩, by omega, by omega, hon, by omega, h, hfb, by omega, by omega⟩ hr.symm
                · refine ks_iload dX7_run_232 rfl rfl ?_
                  refine ks_sipush (x := nI 168) dX7_run_234 (by decide) rfl ?_
                  refine ks_icmp_ltN (tgt := 259) (by omega) (by decide) dX7_run_237 (by decide) rfl (fun g237 => ?_) (fun g237 => ?_)
                  · refine ks_aload_n dX7_run_259 rfl rfl ?_
                    refine ks_iload dX7_run_260 rfl rfl ?_
                    rw [if_neg (by omega), if_pos (by omega)] at hr
                    rw [if_neg (by omega), if_neg (by omega), if_neg (by omega)] at hr
                    refine ks_callV (n := 1) (M' := mX7_perform) (c_mc_perform (d := d + 1) (op := op) M3 O3 (hV.up v3.1 (by decide)) (v3.1.at hy9 (by simp only [List.mem_cons, List.not_mem_nil, or_false, not_or]; omega)) hg9 hL9 hN9 hi9 (v3.1.st hK (by unfold ks_B; decide)) hop (by omega) (by omega) (by unfold gB; split; omega; have := hogt (by omega); omega)) M3 cl_X7 rfl kx_1653 kx_1655 kxp_43 kx_24 kx_1656 (by decide +kernel) rfl (by decide) (Nat.le_of_ble_eq_true rfl) rfl dX7_run_262 rfl (fun z4 T4 y4 => ?_)
                    obtain ⟨y4, M4⟩ := y4
                    cases hak : pfS (lkB g9 L9 p9 e9 inp) op xs ys with
                    | none =>
                      rw [hak] at y4 hr
                      obtain ⟨rfl, v4, O4⟩ := y4
                      have W4 : mcW T4 := W3.up v4 (by decide)
                      obtain ⟨xs4, ys4, u4, O4⟩ := O4
                      have X4 := X3.up v4 (by decide)
                      refine ks_istore dX7_run_265 (by decide) rfl ?_
                      refine ks_sub [(8, _), (0, _), (1, _), (2, _), (3, _), (4, _), (5, _), (6, _), (7, _)] rfl ?_
                      refine ks_sub [(0, _), (1, _), (2, _), (3, _), (4, _), (8, _)] rfl ?_
                      exact l_rn267n (hno _ ⟨v3.1.trans (v4.mono (by decide)), W4, ⟨_, _, _, O4⟩, X4.row, _, _, _, _, _, _, _, _, _, _, _, M4⟩ hr.symm)
                    | some q =>
                      rw [hak] at y4 hr
                      obtain ⟨rfl, v4, u4, l4, m4, O4⟩ := y4
                      simp only [] at hr
                      have W4 : mcW T4 := W3.up v4.1 (by decide)
                      have hgB : gB op ≤ k + 32 * (opsN op ops - ops) := by unfold gB; split; omega; have := hogt (by omega); omega
                      have X4 := X3.up v4.1 (by decide)
                      have v4' : stV LRn T3 T4 u := ⟨v4.1.mono (by decide), v4.2⟩
                      have s4 := v3.trans v4' hu0
                      refine ks_istore dX7_run_265 (by decide) rfl ?_
                      refine ks_sub [(8, _), (0, _), (1, _), (2, _), (3, _), (4, _), (5, _), (6, _), (7, _)] rfl ?_
                      refine ks_sub [(0, _), (1, _), (2, _), (3, _), (4, _), (8, _)] rfl ?_
                      refine l_rn267 M4 O4 (fun h => ?_) (fun h => ?_)
                      · rw [if_pos h] at hr
                        exact hno _ ⟨s4.1, W4, ⟨_, _, _, O4⟩, X4.row, _, _, _, _, _, _, _, _, _, _, _, M4⟩ hr.symm
                      · rw [if_neg (by omega)] at hr
                        refine hnx T4 (pos + k) (if op = 171 then pos + k else pb) (opsN op ops) u4 q.1 q.2 cs (by omega) ⟨s4, W4, O4, X4, R3.step v4' (by rcases hcy with h | h; exact Or.inl h; exact Or.inr ⟨h.1, h.2.1, by omega⟩), ⟨_, _, _, _, M4⟩, by omega, by omega, hon, by omega, h, by split <;> omega, by split <;> omega, by omega⟩ ?_
                        rw [if_neg (show ¬ (172 ≤ op ∧ op ≤ 175) by omega)] at hr
                        rw [← hr]
                        split <;> rfl
                  · refine ks_iload dX7_run_240 rfl rfl ?_
                    refine ks_sipush (x := nI 170) dX7_run_242 (by decide) rfl ?_
                    refine ks_icmp_gtN (tgt := 259) (by omega) (by decide) dX7_run_245 (by decide) rfl (fun g245 => ?_) (fun g245 => ?_)
                    · refine ks_aload_n dX7_run_259 rfl rfl ?_
                      refine ks_iload dX7_run_260 rfl rfl ?_
                      rw [if_neg (by omega), if_pos (by omega)] at hr
                      rw [if_neg (by omega), if_neg (by omega), if_neg (by omega)] at hr
                      refine ks_callV (n := 1) (M' := mX7_perform) (c_mc_perform (d := d + 1) (op := op) M3 O3 (hV.up v3.1 (by decide)) (v3.1.at hy9 (by simp only [List.mem_cons, List.not_mem_nil, or_false, not_or]; omega)) hg9 hL9 hN9 hi9 (v3.1.st hK (by unfold ks_B; decide)) hop (by omega) (by omega) (by unfold gB; split; omega; have := hogt (by omega); omega)) M3 cl_X7 rfl kx_1653 kx_1655 kxp_43 kx_24 kx_1656 (by decide +kernel) rfl (by decide) (Nat.le_of_ble_eq_true rfl) rfl dX7_run_262 rfl (fun z4 T4 y4 => ?_)
                      obtain ⟨y4, M4⟩ := y4
                      cases hak : pfS (lkB g9 L9 p9 e9 inp) op xs ys with
                      | none =>
                        rw [hak] at y4 hr
                        obtain ⟨rfl, v4, O4⟩ := y4
                        have W4 : mcW T4 := W3.up v4 (by decide)
                        obtain ⟨xs4, ys4, u4, O4⟩ := O4
                        have X4 := X3.up v4 (by decide)
                        refine ks_istore dX7_run_265 (by decide) rfl ?_
                        refine ks_sub [(8, _), (0, _), (1, _), (2, _), (3, _), (4, _), (5, _), (6, _), (7, _)] rfl ?_
                        refine ks_sub [(0, _), (1, _), (2, _), (3, _), (4, _), (8, _)] rfl ?_
                        exact l_rn267n (hno _ ⟨v3.1.trans (v4.mono (by decide)), W4, ⟨_, _, _, O4⟩, X4.row, _, _, _, _, _, _, _, _, _, _, _, M4⟩ hr.symm)
                      | some q =>
                        rw [hak] at y4 hr
                        obtain ⟨rfl, v4, u4, l4, m4, O4⟩ := y4
                        simp only [] at hr
                        have W4 : mcW T4 := W3.up v4.1 (by decide)
                        have hgB : gB op ≤ k + 32 * (opsN op ops - ops) := by unfold gB; split; omega; have := hogt (by omega); omega
                        have X4 := X3.up v4.1 (by decide)
                        have v4' : stV LRn T3 T4 u := ⟨v4.1.mono (by decide), v4.2⟩
                        have s4 := v3.trans v4' hu0
                        refine ks_istore dX7_run_265 (by decide) rfl ?_
                        refine ks_sub [(8, _), (0, _), (1, _), (2, _), (3, _), (4, _), (5, _), (6, _), (7, _)] rfl ?_
                        refine ks_sub [(0, _), (1, _), (2, _), (3, _), (4, _), (8, _)] rfl ?_
                        refine l_rn267 M4 O4 (fun h => ?_) (fun h => ?_)
                        · rw [if_pos h] at hr
                          exact hno _ ⟨s4.1, W4, ⟨_, _, _, O4⟩, X4.row, _, _, _, _, _, _, _, _, _, _, _, M4⟩ hr.symm
                        · rw [if_neg (by omega)] at hr
                          refine hnx T4 (pos + k) (if op = 171 then pos + k else pb) (opsN op ops) u4 q.1 q.2 cs (by omega) ⟨s4, W4, O4, X4, R3.step v4' (by rcases hcy with h | h; exact Or.inl h; exact Or.inr ⟨h.1, h.2.1, by omega⟩), ⟨_, _, _, _, M4⟩, by omega, by omega, hon, by omega, h, by split <;> omega, by split <;> omega, by omega⟩ ?_
                          rw [if_neg (show ¬ (172 ≤ op ∧ op ≤ 175) by omega)] at hr
                          rw [← hr]
                          split <;> rfl
                    · refine ks_aload_n dX7_run_248 rfl rfl ?_
                      refine ks_iload dX7_run_249 rfl rfl ?_
                      rw [if_neg (by omega), if_pos (by omega)] at hr
                      rw [if_neg (by omega), if_neg (by omega), if_pos (by omega)] at hr
                      obtain ⟨wc, wh, ⟨g28, kg28, w28⟩, wi, wl⟩ := id W3
                      refine ks_callV (n := 1) (M' := mX7_hashTop) (c_mc_hashTop (d := d + 1) (op := op) M3 O3 (by omega) wh w28 kg28 (v3.1.st hK (by unfold ks_B; decide)) (by have := hogt (by omega); omega)) M3 cl_X7 rfl kx_1648 kx_1650 kxp_42 kx_24 kx_1651 (by decide +kernel) rfl (by decide) (Nat.le_of_ble_eq_true rfl) rfl dX7_run_251 rfl (fun z4 T4 y4 => ?_)
                      obtain ⟨y4, H4, g2, kg2, w2⟩ := y4
                      cases hak : htS op xs ys with
                      | none =>
                        rw [hak] at y4 hr
                        obtain ⟨rfl, v4, O4⟩ := y4
                        obtain ⟨obi, wi⟩ := wi
                        obtain ⟨obl, wl⟩ := wl
                        have W4 : mcW T4 := ⟨wc.up v4 (by decide), H4, ⟨g2, kg2, w2⟩, ⟨obi, wi.up v4 (by decide) (by decide)⟩, obl, wl.up v4 (by decide) (by decide)⟩
                        have M4 := v4.at M3 (by decide)
                        obtain ⟨xs4, ys4, u4, O4⟩ := O4
                        have X4 := X3.up v4 (by decide)
                        refine ks_istore dX7_run_254 (by decide) rfl ?_
                        refine ks_sub [(8, _), (0, _), (1, _), (2, _), (3, _), (4, _), (5, _), (6, _), (7, _)] rfl ?_
                        refine ks_goto (tgt := 267) dX7_run_256 (by decide) ?_
                        refine ks_sub [(0, _), (1, _), (2, _), (3, _), (4, _), (8, _)] rfl ?_
                        exact l_rn267n (hno _ ⟨v3.1.trans (v4.mono (by decide)), W4, ⟨_, _, _, O4⟩, X4.row, _, _, _, _, _, _, _, _, _, _, _, M4⟩ hr.symm)
                      | some q =>
                        rw [hak] at y4 hr
                        obtain ⟨rfl, v4, u4, l4, m4, O4⟩ := y4
                        simp only [] at hr
                        obtain ⟨obi, wi⟩ := wi
                        obtain ⟨obl, wl⟩ := wl
                        have W4 : mcW T4 := ⟨wc.up v4.1 (by decide), H4, ⟨g2, kg2, w2⟩, ⟨obi, wi.up v4.1 (by decide) (by decide)⟩, obl, wl.up v4.1 (by decide) (by decide)⟩
                        have M4 := v4.1.at M3 (by decide)
                        have X4 := X3.up v4.1 (by decide)
                        have v4' : stV LRn T3 T4 u := ⟨v4.1.mono (by decide), v4.2⟩
                        have s4 := v3.trans v4' hu0
                        refine ks_istore dX7_run_254 (by decide) rfl ?_
                        refine ks_sub [(8, _), (0, _), (1, _), (2, _), (3, _), (4, _), (5, _), (6, _), (7, _)] rfl ?_
                        refine ks_goto (tgt := 267) dX7_run_256 (by decide) ?_
                        refine ks_sub [(0, _), (1, _), (2, _), (3, _), (4, _), (8, _)] rfl ?_
                        refine l_rn267 M4 O4 (fun h => ?_) (fun h => ?_)
                        · rw [if_pos h] at hr
                          exact hno _ ⟨s4.1, W4, ⟨_, _, _, O4⟩, X4.row, _, _, _, _, _, _, _, _, _, _, _, M4⟩ hr.symm
                        · rw [if_neg (by omega)] at hr
                          have h1 := hogt (by omega)
                          rw [if_neg (by omega), if_neg (by omega)] at hr
                          exact hnx T4 (pos + k) pb (opsN op ops) u4 q.1 q.2 cs (by omega) ⟨s4, W4, O4, X4, R3.step v4' (by rcases hcy with h | h; exact Or.inl h; exact Or.inr ⟨h.1, h.2.1, by omega⟩), ⟨_, _, _, _, M4⟩, by omega, by omega, hon, by omega, h, hfb, by omega, by omega⟩ hr.symm
              · refine ks_aload_n dX7_run_213 rfl rfl ?_
                refine ks_iload dX7_run_214 rfl rfl ?_
                rw [if_neg (by omega), if_pos (by omega)] at hr
                rw [if_neg (by omega), if_pos (by omega)] at hr
                refine ks_callV (n := 1) (M' := mX7_ask) (c_mc_ask (d := d) hma M3 O3 W3 (hV.up v3.1 (by decide)) (v3.1.at hy9 (by simp only [List.mem_cons, List.not_mem_nil, or_false, not_or]; omega)) hg9 hL9 hN9 hi9 he9 hyn (v3.1.st hK (by unfold ks_B; decide)) g3 kg1 hNc (by omega) hti (by omega) hc38 (Ne.symm hc27) (by omega) (by omega) (by omega) (by omega) hon) M3 cl_X7 rfl kx_1584 kx_1586 kxp_37 kx_24 kx_1587 (by decide +kernel) rfl (by decide) (Nat.le_of_ble_eq_true rfl) rfl dX7_run_216 rfl (fun z4 T4 y4 => ?_)
                rw [eB pb] at y4
                obtain ⟨y4, W4, o2, j1, j2, j3, j4, M4, ho3⟩ := y4
                cases hak : akS (fun code k s => ecG k s (sgH g9 L9 b9 k9 p9 m9 u9 e9 inp (s.getD (s.length - 1) 0) code)) op xs ys (opsN op ops) (bytL gc pb (till - pb)) with
                | none =>
                  rw [hak] at y4 hr
                  obtain ⟨rfl, v4, O4⟩ := y4
                  obtain ⟨xs4, ys4, u4, O4⟩ := O4
                  have X4 := X3.up v4 (by decide)
                  refine ks_istore dX7_run_219 (by decide) rfl ?_
                  refine ks_sub [(8, _), (0, _), (1, _), (2, _), (3, _), (4, _), (5, _), (6, _), (7, _)] rfl ?_
                  refine ks_goto (tgt := 267) dX7_run_221 (by decide) ?_
                  refine ks_sub [(0, _), (1, _), (2, _), (3, _), (4, _), (8, _)] rfl ?_
                  exact l_rn267n (hno _ ⟨v3.1.trans (v4.mono (by decide)), W4, ⟨_, _, _, O4⟩, X4.row, _, _, _, _, _, _, _, _, _, _, _, M4⟩ hr.symm)
                | some q =>
                  rw [hak] at y4 hr ho3
                  obtain ⟨rfl, v4, u4, l4, m4, O4⟩ := y4
                  simp only [] at hr
                  have ho4 := ho3 rfl
                  have hq1 : akO op xs (opsN op ops) ≤ 201 ∧ opsN op ops ≤ akO op xs (opsN op ops) := akO_b hak hon
                  rw [ho4] at M4
                  have X4 := X3.up v4.1 (by decide)
                  have v4' : stV LRn T3 T4 u := ⟨v4.1.mono (by decide), v4.2⟩
                  have s4 := v3.trans v4' hu0
                  refine ks_istore dX7_run_219 (by decide) rfl ?_
                  refine ks_sub [(8, _), (0, _), (1, _), (2, _), (3, _), (4, _), (5, _), (6, _), (7, _)] rfl ?_
                  refine ks_goto (tgt := 267) dX7_run_221 (by decide) ?_
                  refine ks_sub [(0, _), (1, _), (2, _), (3, _), (4, _), (8, _)] rfl ?_
                  refine l_rn267 M4 O4 (fun h => ?_) (fun h => ?_)
                  · rw [if_pos h] at hr
                    exact hno _ ⟨s4.1, W4, ⟨_, _, _, O4⟩, X4.row, _, _, _, _, _, _, _, _, _, _, _, M4⟩ hr.symm
                  · rw [if_neg (by omega)] at hr
                    have h1 := hogt (by omega)
                    rw [if_neg (by omega), if_pos (by omega)] at hr
                    exact hnx T4 (pos + k) pb (akO op xs (opsN op ops)) u4 q.1 q.2 cs (by omega) ⟨s4, W4, O4, X4, R3.step v4' (by rcases hcy with h | h; exact Or.inl h; exact Or.inr ⟨h.1, h.2.1, by omega⟩), ⟨_, _, _, _, M4⟩, by omega, by omega, hq1.1, by omega, h, hfb, by omega, by omega⟩ hr.symm
          · refine ks_aload_n dX7_run_174 rfl rfl ?_
            refine ks_getf (T := TX7) (kf := 3) kx_646 rfl in_X7 cl_X7 (by decide) M3 rfl dX7_run_175 rfl ?_
            refine ks_aload_n dX7_run_178 rfl rfl ?_
            refine ks_getf (T := TX7) (kf := 9) kx_652 rfl in_X7 cl_X7 (by decide) M3 rfl dX7_run_179 rfl ?_
            refine ks_iload dX7_run_182 rfl rfl ?_
            refine ks_iload dX7_run_184 rfl rfl ?_
            refine ks_iload dX7_run_186 rfl rfl ?_
            refine ks_subN (by omega) dX7_run_188 rfl ?_
            rw [if_neg (by omega), if_pos (by omega)] at hr
            rw [if_pos (by omega), eT] at hr
            have h520 := hn520 (by omega)
            rw [show pos + k - (pos + hdS op) = k - hdS op by omega]
            refine ks_callV (n := 3) (M' := mX8_add) (c_st_add (d := d + 4) (s := pos + hdS op) (c := k - hdS op) O3 g3 kg1 (by omega) hNc (by omega) (by omega) hc29) O3.ob cl_X8 rfl kx_1579 kx_1580 kx_1581 kx_25 kx_1582 (by decide +kernel) rfl (by decide) (Nat.le_of_ble_eq_true rfl) rfl dX7_run_189 rfl (fun z4 T4 y4 => ?_)
            obtain ⟨rfl, v4, O4⟩ := y4
            have M4 := v4.1.at M3 (by decide)
            have X4 := X3.up v4.1 (by decide)
            have W4 : mcW T4 := W3.up v4.1 (by decide)
            have v4' : stV LRn T3 T4 u := v4.v (by decide)
            have s4 := v3.trans v4' hu0
            simp only [] at hr
            refine ks_istore dX7_run_192 (by decide) rfl ?_
            refine ks_sub [(8, _), (0, _), (1, _), (2, _), (3, _), (4, _), (5, _), (6, _), (7, _)] rfl ?_
            refine ks_goto (tgt := 267) dX7_run_194 (by decide) ?_
            refine ks_sub [(0, _), (1, _), (2, _), (3, _), (4, _), (8, _)] rfl ?_
            refine l_rn267 M4 O4 (fun h => ?_) (fun h => ?_)
            · rw [if_pos h] at hr
              exact hno _ ⟨s4.1, W4, ⟨_, _, _, O4⟩, X4.row, _, _, _, _, _, _, _, _, _, _, _, M4⟩ hr.symm
            · rw [if_neg (by omega), if_neg (by omega), if_neg (by omega)] at hr
              exact hnx T4 (pos + k) pb (opsN op ops) (u + (k - hdS op)) _ ys cs (by omega) ⟨s4, W4, O4, X4, R3.step v4' (by rcases hcy with h | h; exact Or.inl h; exact Or.inr ⟨h.1, h.2.1, by omega⟩), ⟨_, _, _, _, M4⟩, by omega, by omega, hon, by omega, h, hfb, by omega, by omega⟩ hr.symm
      · refine ks_iload dX7_run_142 rfl rfl ?_
        refine ks_bipush (x := nI 104) dX7_run_144 (by decide) rfl ?_
        refine ks_icmp_gtN (tgt := 160) (by omega) (by decide) dX7_run_146 (by decide) rfl (fun g146 => ?_) (fun g146 => ?_)
        · refine ks_aload_n dX7_run_160 rfl rfl ?_
          refine ks_getf (T := TX7) (kf := 15) kx_658 rfl in_X7 cl_X7 (by decide) M3 rfl dX7_run_161 rfl ?_
          refine ks_if_neN (tgt := 267) (by omega) dX7_run_164 (by decide) rfl (fun g164 => ?_) (fun g164 => ?_)
          · refine ks_sub [(0, _), (1, _), (2, _), (3, _), (4, _), (8, _)] rfl ?_
            rw [if_neg (by omega), if_neg (by omega)] at hr
            exact ks_sub [(0, _), (1, _), (2, _), (3, _), (4, _), (8, .int (ks_bo true))] rfl (l_rn267 M3 O3 (fun h => by omega) (fun h => hnx T3 (pos + k) pb (opsN op ops) u xs ys cs (by omega) ⟨v3, W3, O3, X3, R3, ⟨_, _, _, _, M3⟩, hu0, by omega, hon, by omega, h, hfb, by omega, by omega⟩ hr.symm))
          · refine ks_iload dX7_run_167 rfl rfl ?_
            refine ks_bipush (x := nI 78) dX7_run_169 (by decide) rfl ?_
            refine ks_icmp_gtN (tgt := 197) (by omega) (by decide) dX7_run_171 (by decide) rfl (fun g171 => ?_) (fun g171 => ?_)
            · refine ks_iload dX7_run_197 rfl rfl ?_
              refine ks_sipush (x := nI 172) dX7_run_199 (by decide) rfl ?_
              refine ks_icmp_ltN (tgt := 224) (by omega) (by decide) dX7_run_202 (by decide) rfl (fun g202 => ?_) (fun g202 => ?_)
              · refine ks_iload dX7_run_224 rfl rfl ?_
                refine ks_sipush (x := nI 166) dX7_run_226 (by decide) rfl ?_
                refine ks_icmp_eqN (tgt := 248) (by omega) (by decide) dX7_run_229 (by decide) rfl (fun g229 => ?_) (fun g229 => ?_)
                · refine ks_aload_n dX7_run_248 rfl rfl ?_
                  refine ks_iload dX7_run_249 rfl rfl ?_
                  rw [if_neg (by omega), if_pos (by omega)] at hr
                  rw [if_neg (by omega), if_neg (by omega), if_pos (by omega)] at hr
                  obtain ⟨wc, wh, ⟨g28, kg28, w28⟩, wi, wl⟩ := id W3
                  refine ks_callV (n := 1) (M' := mX7_hashTop) (c_mc_hashTop (d := d + 1) (op := op) M3 O3 (by omega) wh w28 kg28 (v3.1.st hK (by unfold ks_B; decide)) (by have := hogt (by omega); omega)) M3 cl_X7 rfl kx_1648 kx_1650 kxp_42 kx_24 kx_1651 (by decide +kernel) rfl (by decide) (Nat.le_of_ble_eq_true rfl) rfl dX7_run_251 rfl (fun z4 T4 y4 => ?_)
                  obtain ⟨y4, H4, g2, kg2, w2⟩ := y4
                  cases hak : htS op xs ys with
                  | none =>
                    rw [hak] at y4 hr
                    obtain ⟨rfl, v4, O4⟩ := y4
                    obtain ⟨obi, wi⟩ := wi
                    obtain ⟨obl, wl⟩ := wl
                    have W4 : mcW T4 := ⟨wc.up v4 (by decide), H4, ⟨g2, kg2, w2⟩, ⟨obi, wi.up v4 (by decide) (by decide)⟩, obl, wl.up v4 (by decide) (by decide)⟩
                    have M4 := v4.at M3 (by decide)
                    obtain ⟨xs4, ys4, u4, O4⟩ := O4
                    have X4 := X3.up v4 (by decide)
                    refine ks_istore dX7_run_254 (by decide) rfl ?_
                    refine ks_sub [(8, _), (0, _), (1, _), (2, _), (3, _), (4, _), (5, _), (6, _), (7, _)] rfl ?_
                    refine ks_goto (tgt := 267) dX7_run_256 (by decide) ?_
                    refine ks_sub [(0, _), (1, _), (2, _), (3, _), (4, _), (8, _)] rfl ?_
                    exact l_rn267n (hno _ ⟨v3.1.trans (v4.mono (by decide)), W4, ⟨_, _, _, O4⟩, X4.row, _, _, _, _, _, _, _, _, _, _, _, M4⟩ hr.symm)
                  | some q =>
                    rw [hak] at y4 hr
                    obtain ⟨rfl, v4, u4, l4, m4, O4⟩ := y4
                    simp only [] at hr
                    obtain ⟨obi, wi⟩ := wi
                    obtain ⟨obl, wl⟩ := wl
                    have W4 : mcW T4 := ⟨wc.up v4.1 (by decide), H4, ⟨g2, kg2, w2⟩, ⟨obi, wi.up v4.1 (by decide) (by decide)⟩, obl, wl.up v4.1 (by decide) (by decide)⟩
                    have M4 := v4.1.at M3 (by decide)
                    have X4 := X3.up v4.1 (by decide)
                    have v4' : stV LRn T3 T4 u := ⟨v4.1.mono (by decide), v4.2⟩
                    have s4 := v3.trans v4' hu0
                    refine ks_istore dX7_run_254 (by decide) rfl ?_
                    refine ks_sub [(8, _), (0, _), (1, _), (2, _), (3, _), (4, _), (5, _), (6, _), (7, _)] rfl ?_
                    refine ks_goto (tgt := 267) dX7_run_256 (by decide) ?_
                    refine ks_sub [(0, _), (1, _), (2, _), (3, _), (4, _), (8, _)] rfl ?_
                    refine l_rn267 M4 O4 (fun h => ?_) (fun h => ?_)
                    · rw [if_pos h] at hr
                      exact hno _ ⟨s4.1, W4, ⟨_, _, _, O4⟩, X4.row, _, _, _, _, _, _, _, _, _, _, _, M4⟩ hr.symm
                    · rw [if_neg (by omega)] at hr
                      have h1 := hogt (by omega)
                      rw [if_neg (by omega), if_neg (by omega)] at hr
                      exact hnx T4 (pos + k) pb (opsN op ops) u4 q.1 q.2 cs (by omega) ⟨s4, W4, O4, X4, R3.step v4' (by rcases hcy with h | h; exact Or.inl h; exact Or.inr ⟨h.1, h.2.1, by omega⟩), ⟨_, _, _, _, M4⟩, by omega, by omega, hon, by omega, h, hfb, by omega, by omega⟩ hr.symm
                · refine ks_iload dX7_run_232 rfl rfl ?_
                  refine ks_sipush (x := nI 168) dX7_run_234 (by decide) rfl ?_
                  refine ks_icmp_ltN (tgt := 259) (by omega) (by decide) dX7_run_237 (by decide) rfl (fun g237 => ?_) (fun g237 => ?_)
                  · refine ks_aload_n dX7_run_259 rfl rfl ?_
                    refine ks_iload dX7_run_260 rfl rfl ?_
                    rw [if_neg (by omega), if_pos (by omega)] at hr
                    rw [if_neg (by omega), if_neg (by omega), if_neg (by omega)] at hr
                    refine ks_callV (n := 1) (M' := mX7_perform) (c_mc_perform (d := d + 1) (op := op) M3 O3 (hV.up v3.1 (by decide)) (v3.1.at hy9 (by simp only [List.mem_cons, List.not_mem_nil, or_false, not_or]; omega)) hg9 hL9 hN9 hi9 (v3.1.st hK (by unfold ks_B; decide)) hop (by omega) (by omega) (by unfold gB; split; omega; have := hogt (by omega); omega)) M3 cl_X7 rfl kx_1653 kx_1655 kxp_43 kx_24 kx_1656 (by decide +kernel) rfl (by decide) (Nat.le_of_ble_eq_true rfl) rfl dX7_run_262 rfl (fun z4 T4 y4 => ?_)
                    obtain ⟨y4, M4⟩ := y4
                    cases hak : pfS (lkB g9 L9 p9 e9 inp) op xs ys with
                    | none =>
                      rw [hak] at y4 hr
                      obtain ⟨rfl, v4, O4⟩ := y4
                      have W4 : mcW T4 := W3.up v4 (by decide)
                      obtain ⟨xs4, ys4, u4, O4⟩ := O4
                      have X4 := X3.up v4 (by decide)
                      refine ks_istore dX7_run_265 (by decide) rfl ?_
                      refine ks_sub [(8, _), (0, _), (1, _), (2, _), (3, _), (4, _), (5, _), (6, _), (7, _)] rfl ?_
                      refine ks_sub [(0, _), (1, _), (2, _), (3, _), (4, _), (8, _)] rfl ?_
                      exact l_rn267n (hno _ ⟨v3.1.trans (v4.mono (by decide)), W4, ⟨_, _, _, O4⟩, X4.row, _, _, _, _, _, _, _, _, _, _, _, M4⟩ hr.symm)
                    | some q =>
                      rw [hak] at y4 hr
                      obtain ⟨rfl, v4, u4, l4, m4, O4⟩ := y4
                      simp only [] at hr
                      have W4 : mcW T4 := W3.up v4.1 (by decide)
                      have hgB : gB op ≤ k + 32 * (opsN op ops - ops) := by unfold gB; split; omega; have := hogt (by omega); omega
                      have X4 := X3.up v4.1 (by decide)
                      have v4' : stV LRn T3 T4 u := ⟨v4.1.mono (by decide), v4.2⟩
                      have s4 := v3.trans v4' hu0
                      refine ks_istore dX7_run_265 (by decide) rfl ?_
                      refine ks_sub [(8, _), (0, _), (1, _), (2, _), (3, _), (4, _), (5, _), (6, _), (7, _)] rfl ?_
                      refine ks_sub [(0, _), (1, _), (2, _), (3, _), (4, _), (8, _)] rfl ?_
                      refine l_rn267 M4 O4 (fun h => ?_) (fun h => ?_)
                      · rw [if_pos h] at hr
                        exact hno _ ⟨s4.1, W4, ⟨_, _, _, O4⟩, X4.row, _, _, _, _, _, _, _, _, _, _, _, M4⟩ hr.symm
                      · rw [if_neg (by omega)] at hr
                        refine hnx T4 (pos + k) (if op = 171 then pos + k else pb) (opsN op ops) u4 q.1 q.2 cs (by omega) ⟨s4, W4, O4, X4, R3.step v4' (by rcases hcy with h | h; exact Or.inl h; exact Or.inr ⟨h.1, h.2.1, by omega⟩), ⟨_, _, _, _, M4⟩, by omega, by omega, hon, by omega, h, by split <;> omega, by split <;> omega, by omega⟩ ?_
                        rw [if_neg (show ¬ (172 ≤ op ∧ op ≤ 175) by omega)] at hr
                        rw [← hr]
                        split <;> rfl
                  · refine ks_iload dX7_run_240 rfl rfl ?_
                    refine ks_sipush (x := nI 170) dX7_run_242 (by decide) rfl ?_
                    refine ks_icmp_gtN (tgt := 259) (by omega) (by decide) dX7_run_245 (by decide) rfl (fun g245 => ?_) (fun g245 => ?_)
                    · refine ks_aload_n dX7_run_259 rfl rfl ?_
                      refine ks_iload dX7_run_260 rfl rfl ?_
                      rw [if_neg (by omega), if_pos (by omega)] at hr
                      rw [if_neg (by omega), if_neg (by omega), if_neg (by omega)] at hr
                      refine ks_callV (n := 1) (M' := mX7_perform) (c_mc_perform (d := d + 1) (op := op) M3 O3 (hV.up v3.1 (by decide)) (v3.1.at hy9 (by simp only [List.mem_cons, List.not_mem_nil, or_false, not_or]; omega)) hg9 hL9 hN9 hi9 (v3.1.st hK (by unfold ks_B; decide)) hop (by omega) (by omega) (by unfold gB; split; omega; have := hogt (by omega); omega)) M3 cl_X7 rfl kx_1653 kx_1655 kxp_43 kx_24 kx_1656 (by decide +kernel) rfl (by decide) (Nat.le_of_ble_eq_true rfl) rfl dX7_run_262 rfl (fun z4 T4 y4 => ?_)
                      obtain ⟨y4, M4⟩ := y4
                      cases hak : pfS (lkB g9 L9 p9 e9 inp) op xs ys with
                      | none =>
                        rw [hak] at y4 hr
                        obtain ⟨rfl, v4, O4⟩ := y4
                        have W4 : mcW T4 := W3.up v4 (by decide)
                        obtain ⟨xs4, ys4, u4, O4⟩ := O4
                        have X4 := X3.up v4 (by decide)
                        refine ks_istore dX7_run_265 (by decide) rfl ?_
                        refine ks_sub [(8, _), (0, _), (1, _), (2, _), (3, _), (4, _), (5, _), (6, _), (7, _)] rfl ?_
                        refine ks_sub [(0, _), (1, _), (2, _), (3, _), (4, _), (8, _)] rfl ?_
                        exact l_rn267n (hno _ ⟨v3.1.trans (v4.mono (by decide)), W4, ⟨_, _, _, O4⟩, X4.row, _, _, _, _, _, _, _, _, _, _, _, M4⟩ hr.symm)
                      | some q =>
                        rw [hak] at y4 hr
                        obtain ⟨rfl, v4, u4, l4, m4, O4⟩ := y4
                        simp only [] at hr
                        have W4 : mcW T4 := W3.up v4.1 (by decide)
                        have hgB : gB op ≤ k + 32 * (opsN op ops - ops) := by unfold gB; split; omega; have := hogt (by omega); omega
                        have X4 := X3.up v4.1 (by decide)
                        have v4' : stV LRn T3 T4 u := ⟨v4.1.mono (by decide), v4.2⟩
                        have s4 := v3.trans v4' hu0
                        refine ks_istore dX7_run_265 (by decide) rfl ?_
                        refine ks_sub [(8, _), (0, _), (1, _), (2, _), (3, _), (4, _), (5, _), (6, _), (7, _)] rfl ?_
                        refine ks_sub [(0, _), (1, _), (2, _), (3, _), (4, _), (8, _)] rfl ?_
                        refine l_rn267 M4 O4 (fun h => ?_) (fun h => ?_)
                        · rw [if_pos h] at hr
                          exact hno _ ⟨s4.1, W4, ⟨_, _, _, O4⟩, X4.row, _, _, _, _, _, _, _, _, _, _, _, M4⟩ hr.symm
                        · rw [if_neg (by omega)] at hr
                          refine hnx T4 (pos + k) (if op = 171 then pos + k else pb) (opsN op ops) u4 q.1 q.2 cs (by omega) ⟨s4, W4, O4, X4, R3.step v4' (by rcases hcy with h | h; exact Or.inl h; exact Or.inr ⟨h.1, h.2.1, by omega⟩), ⟨_, _, _, _, M4⟩, by omega, by omega, hon, by omega, h, by split <;> omega, by split <;> omega, by omega⟩ ?_
                          rw [if_neg (show ¬ (172 ≤ op ∧ op ≤ 175) by omega)] at hr
                          rw [← hr]
                          split <;> rfl
                    · refine ks_aload_n dX7_run_248 rfl rfl ?_
                      refine ks_iload dX7_run_249 rfl rfl ?_
                      rw [if_neg (by omega), if_pos (by omega)] at hr
                      rw [if_neg (by omega), if_neg (by omega), if_pos (by omega)] at hr
                      obtain ⟨wc, wh, ⟨g28, kg28, w28⟩, wi, wl⟩ := id W3
                      refine ks_callV (n := 1) (M' := mX7_hashTop) (c_mc_hashTop (d := d + 1) (op := op) M3 O3 (by omega) wh w28 kg28 (v3.1.st hK (by unfold ks_B; decide)) (by have := hogt (by omega); omega)) M3 cl_X7 rfl kx_1648 kx_1650 kxp_42 kx_24 kx_1651 (by decide +kernel) rfl (by decide) (Nat.le_of_ble_eq_true rfl) rfl dX7_run_251 rfl (fun z4 T4 y4 => ?_)
                      obtain ⟨y4, H4, g2, kg2, w2⟩ := y4
                      cases hak : htS op xs ys with
                      | none =>
                        rw [hak] at y4 hr
                        obtain ⟨rfl, v4, O4⟩ := y4
                        obtain ⟨obi, wi⟩ := wi
                        obtain ⟨obl, wl⟩ := wl
                        have W4 : mcW T4 := ⟨wc.up v4 (by decide), H4, ⟨g2, kg2, w2⟩, ⟨obi, wi.up v4 (by decide) (by decide)⟩, obl, wl.up v4 (by decide) (by decide)⟩
                        have M4 := v4.at M3 (by decide)
                        obtain ⟨xs4, ys4, u4, O4⟩ := O4
                        have X4 := X3.up v4 (by decide)
                        refine ks_istore dX7_run_254 (by decide) rfl ?_
                        refine ks_sub [(8, _), (0, _), (1, _), (2, _), (3, _), (4, _), (5, _), (6, _), (7, _)] rfl ?_
                        refine ks_goto (tgt := 267) dX7_run_256 (by decide) ?_
                        refine ks_sub [(0, _), (1, _), (2, _), (3, _), (4, _), (8, _)] rfl ?_
                        exact l_rn267n (hno _ ⟨v3.1.trans (v4.mono (by decide)), W4, ⟨_, _, _, O4⟩, X4.row, _, _, _, _, _, _, _, _, _, _, _, M4⟩ hr.symm)
                      | some q =>
                        rw [hak] at y4 hr
                        obtain ⟨rfl, v4, u4, l4, m4, O4⟩ := y4
                        simp only [] at hr
                        obtain ⟨obi, wi⟩ := wi
                        obtain ⟨obl, wl⟩ := wl
                        have W4 : mcW T4 := ⟨wc.up v4.1 (by decide), H4, ⟨g2, kg2, w2⟩, ⟨obi, wi.up v4.1 (by decide) (by decide)⟩, obl, wl.up v4.1 (by decide) (by decide)⟩
                        have M4 := v4.1.at M3 (by decide)
                        have X4 := X3.up v4.1 (by decide)
                        have v4' : stV LRn T3 T4 u := ⟨v4.1.mono (by decide), v4.2⟩
                        have s4 := v3.trans v4' hu0
                        refine ks_istore dX7_run_254 (by decide) rfl ?_
                        refine ks_sub [(8, _), (0, _), (1, _), (2, _), (3, _), (4, _), (5, _), (6, _), (7, _)] rfl ?_
                        refine ks_goto (tgt := 267) dX7_run_256 (by decide) ?_
                        refine ks_sub [(0, _), (1, _), (2, _), (3, _), (4, _), (8, _)] rfl ?_
                        refine l_rn267 M4 O4 (fun h => ?_) (fun h => ?_)
                        · rw [if_pos h] at hr
                          exact hno _ ⟨s4.1, W4, ⟨_, _, _, O4⟩, X4.row, _, _, _, _, _, _, _, _, _, _, _, M4⟩ hr.symm
                        · rw [if_neg (by omega)] at hr
                          have h1 := hogt (by omega)
                          rw [if_neg (by omega), if_neg (by omega)] at hr
                          exact hnx T4 (pos + k) pb (opsN op ops) u4 q.1 q.2 cs (by omega) ⟨s4, W4, O4, X4, R3.step v4' (by rcases hcy with h | h; exact Or.inl h; exact Or.inr ⟨h.1, h.2.1, by omega⟩), ⟨_, _, _, _, M4⟩, by omega, by omega, hon, by omega, h, hfb, by omega, by omega⟩ hr.symm
              · refine ks_iload dX7_run_205 rfl rfl ?_
                refine ks_sipush (x := nI 175) dX7_run_207 (by decide) rfl ?_
                refine ks_icmp_gtN (tgt := 224) (by omega) (by decide) dX7_run_210 (by decide) rfl (fun g210 => ?_) (fun g210 => ?_)
                · refine ks_iload dX7_run_224 rfl rfl ?_
                  refine ks_sipush (x := nI 166) dX7_run_226 (by decide) rfl ?_
                  refine ks_icmp_eqN (tgt := 248) (by omega) (by decide) dX7_run_229 (by decide) rfl (fun g229 => ?_) (fun g229 => ?_)
                  · refine ks_aload_n dX7_run_248 rfl rfl ?_
                    refine ks_iload dX7_run_249 rfl rfl ?_
                    rw [if_neg (by omega), if_pos (by omega)] at hr
                    rw [if_neg (by omega), if_neg (by omega), if_pos (by omega)] at hr
                    obtain ⟨wc, wh, ⟨g28, kg28, w28⟩, wi, wl⟩ := id W3
                    refine ks_callV (n := 1) (M' := mX7_hashTop) (c_mc_hashTop (d := d + 1) (op := op) M3 O3 (by omega) wh w28 kg28 (v3.1.st hK (by unfold ks_B; decide)) (by have := hogt (by omega); omega)) M3 cl_X7 rfl kx_1648 kx_1650 kxp_42 kx_24 kx_1651 (by decide +kernel) rfl (by decide) (Nat.le_of_ble_eq_true rfl) rfl dX7_run_251 rfl (fun z4 T4 y4 => ?_)
                    obtain ⟨y4, H4, g2, kg2, w2⟩ := y4
                    cases hak : htS op xs ys with
                    | none =>
                      rw [hak] at y4 hr
                      obtain ⟨rfl, v4, O4⟩ := y4
                      obtain ⟨obi, wi⟩ := wi
                      obtain ⟨obl, wl⟩ := wl
                      have W4 : mcW T4 := ⟨wc.up v4 (by decide), H4, ⟨g2, kg2, w2⟩, ⟨obi, wi.up v4 (by decide) (by decide)⟩, obl, wl.up v4 (by decide) (by decide)⟩
                      have M4 := v4.at M3 (by decide)
                      obtain ⟨xs4, ys4, u4, O4⟩ := O4
                      have X4 := X3.up v4 (by decide)
                      refine ks_istore dX7_run_254 (by decide) rfl ?_
                      refine ks_sub [(8, _), (0, _), (1, _), (2, _), (3, _), (4, _), (5, _), (6, _), (7, _)] rfl ?_
                      refine ks_goto (tgt := 267) dX7_run_256 (by decide) ?_
                      refine ks_sub [(0, _), (1, _), (2, _), (3, _), (4, _), (8, _)] rfl ?_
                      exact l_rn267n (hno _ ⟨v3.1.trans (v4.mono (by decide)), W4, ⟨_, _, _, O4⟩, X4.row, _, _, _, _, _, _, _, _, _, _, _, M4⟩ hr.symm)
                    | some q =>
                      rw [hak] at y4 hr
                      obtain ⟨rfl, v4, u4, l4, m4, O4⟩ := y4
                      simp only [] at hr
                      obtain ⟨obi, wi⟩ := wi
                      obtain ⟨obl, wl⟩ := wl
                      have W4 : mcW T4 := ⟨wc.up v4.1 (by decide), H4, ⟨g2, kg2, w2⟩, ⟨obi, wi.up v4.1 (by decide) (by decide)⟩, obl, wl.up v4.1 (by decide) (by decide)⟩
                      have M4 := v4.1.at M3 (by decide)
                      have X4 := X3.up v4.1 (by decide)
                      have v4' : stV LRn T3 T4 u := ⟨v4.1.mono (by decide), v4.2⟩
                      have s4 := v3.trans v4' hu0
                      refine ks_istore dX7_run_254 (by decide) rfl ?_
                      refine ks_sub [(8, _), (0, _), (1, _), (2, _), (3, _), (4, _), (5, _), (6, _), (7, _)] rfl ?_
                      refine ks_goto (tgt := 267) dX7_run_256 (by decide) ?_
                      refine ks_sub [(0, _), (1, _), (2, _), (3, _), (4, _), (8, _)] rfl ?_
                      refine l_rn267 M4 O4 (fun h => ?_) (fun h => ?_)
                      · rw [if_pos h] at hr
                        exact hno _ ⟨s4.1, W4, ⟨_, _, _, O4⟩, X4.row, _, _, _, _, _, _, _, _, _, _, _, M4⟩ hr.symm
                      · rw [if_neg (by omega)] at hr
                        have h1 := hogt (by omega)
                        rw [if_neg (by omega), if_neg (by omega)] at hr
                        exact hnx T4 (pos + k) pb (opsN op ops) u4 q.1 q.2 cs (by omega) ⟨s4, W4, O4, X4, R3.step v4' (by rcases hcy with h | h; exact Or.inl h; exact Or.inr ⟨h.1, h.2.1, by omega⟩), ⟨_, _, _, _, M4⟩, by omega, by omega, hon, by omega, h, hfb, by omega, by omega⟩ hr.symm
                  · refine ks_iload dX7_run_232 rfl rfl ?_
                    refine ks_sipush (x := nI 168) dX7_run_234 (by decide) rfl ?_
                    refine ks_icmp_ltN (tgt := 259) (by omega) (by decide) dX7_run_237 (by decide) rfl (fun g237 => ?_) (fun g237 => ?_)
                    · refine ks_aload_n dX7_run_259 rfl rfl ?_
                      refine ks_iload dX7_run_260 rfl rfl ?_
                      rw [if_neg (by omega), if_pos (by omega)] at hr
                      rw [if_neg (by omega), if_neg (by omega), if_neg (by omega)] at hr
                      refine ks_callV (n := 1) (M' := mX7_perform) (c_mc_perform (d := d + 1) (op := op) M3 O3 (hV.up v3.1 (by decide)) (v3.1.at hy9 (by simp only [List.mem_cons, List.not_mem_nil, or_false, not_or]; omega)) hg9 hL9 hN9 hi9 (v3.1.st hK (by unfold ks_B; decide)) hop (by omega) (by omega) (by unfold gB; split; omega; have := hogt (by omega); omega)) M3 cl_X7 rfl kx_1653 kx_1655 kxp_43 kx_24 kx_1656 (by decide +kernel) rfl (by decide) (Nat.le_of_ble_eq_true rfl) rfl dX7_run_262 rfl (fun z4 T4 y4 => ?_)
                      obtain ⟨y4, M4⟩ := y4
                      cases hak : pfS (lkB g9 L9 p9 e9 inp) op xs ys with
                      | none =>
                        rw [hak] at y4 hr
                        obtain ⟨rfl, v4, O4⟩ := y4
                        have W4 : mcW T4 := W3.up v4 (by decide)
                        obtain ⟨xs4, ys4, u4, O4⟩ := O4
                        have X4 := X3.up v4 (by decide)
                        refine ks_istore dX7_run_265 (by decide) rfl ?_
                        refine ks_sub [(8, _), (0, _), (1, _), (2, _), (3, _), (4, _), (5, _), (6, _), (7, _)] rfl ?_
                        refine ks_sub [(0, _), (1, _), (2, _), (3, _), (4, _), (8, _)] rfl ?_
                        exact l_rn267n (hno _ ⟨v3.1.trans (v4.mono (by decide)), W4, ⟨_, _, _, O4⟩, X4.row, _, _, _, _, _, _, _, _, _, _, _, M4⟩ hr.symm)
                      | some q =>
                        rw [hak] at y4 hr
                        obtain ⟨rfl, v4, u4, l4, m4, O4⟩ := y4
                        simp only [] at hr
                        have W4 : mcW T4 := W3.up v4.1 (by decide)
                        have hgB : gB op ≤ k + 32 * (opsN op ops - ops) := by unfold gB; split; omega; have := hogt (by omega); omega
                        have X4 := X3.up v4.1 (by decide)
                        have v4' : stV LRn T3 T4 u := ⟨v4.1.mono (by decide), v4.2⟩
                        have s4 := v3.trans v4' hu0
                        refine ks_istore dX7_run_265 (by decide) rfl ?_
                        refine ks_sub [(8, _), (0, _), (1, _), (2, _), (3, _), (4, _), (5, _), (6, _), (7, _)] rfl ?_
                        refine ks_sub [(0, _), (1, _), (2, _), (3, _), (4, _), (8, _)] rfl ?_
                        refine l_rn267 M4 O4 (fun h => ?_) (fun h => ?_)
                        · rw [if_pos h] at hr
                          exact hno _ ⟨s4.1, W4, ⟨_, _, _, O4⟩, X4.row, _, _, _, _, _, _, _, _, _, _, _, M4⟩ hr.symm
                        · rw [if_neg (by omega)] at hr
                          refine hnx T4 (pos + k) (if op = 171 then pos + k else pb) (opsN op ops) u4 q.1 q.2 cs (by omega) ⟨s4, W4, O4, X4, R3.step v4' (by rcases hcy with h | h; exact Or.inl h; exact Or.inr ⟨h.1, h.2.1, by omega⟩), ⟨_, _, _, _, M4⟩, by omega, by omega, hon, by omega, h, by split <;> omega, by split <;> omega, by omega⟩ ?_
                          rw [if_neg (show ¬ (172 ≤ op ∧ op ≤ 175) by omega)] at hr
                          rw [← hr]
                          split <;> rfl
                    · refine ks_iload dX7_run_240 rfl rfl ?_
                      refine ks_sipush (x := nI 170) dX7_run_242 (by decide) rfl ?_
                      refine ks_icmp_gtN (tgt := 259) (by omega) (by decide) dX7_run_245 (by decide) rfl (fun g245 => ?_) (fun g245 => ?_)
                      · refine ks_aload_n dX7_run_259 rfl rfl ?_
                        refine ks_iload dX7_run_260 rfl rfl ?_
                        rw [if_neg (by omega), if_pos (by omega)] at hr
                        rw [if_neg (by omega), if_neg (by omega), if_neg (by omega)] at hr
                        refine ks_callV (n := 1) (M' := mX7_perform) (c_mc_perform (d := d + 1) (op := op) M3 O3 (hV.up v3.1 (by decide)) (v3.1.at hy9 (by simp only [List.mem_cons, List.not_mem_nil, or_false, not_or]; omega)) hg9 hL9 hN9 hi9 (v3.1.st hK (by unfold ks_B; decide)) hop (by omega) (by omega) (by unfold gB; split; omega; have := hogt (by omega); omega)) M3 cl_X7 rfl kx_1653 kx_1655 kxp_43 kx_24 kx_1656 (by decide +kernel) rfl (by decide) (Nat.le_of_ble_eq_true rfl) rfl dX7_run_262 rfl (fun z4 T4 y4 => ?_)
                        obtain ⟨y4, M4⟩ := y4
                        cases hak : pfS (lkB g9 L9 p9 e9 inp) op xs ys with
                        | none =>
                          rw [hak] at y4 hr
                          obtain ⟨rfl, v4, O4⟩ := y4
                          have W4 : mcW T4 := W3.up v4 (by decide)
                          obtain ⟨xs4, ys4, u4, O4⟩ := O4
                          have X4 := X3.up v4 (by decide)
                          refine ks_istore dX7_run_265 (by decide) rfl ?_
                          refine ks_sub [(8, _), (0, _), (1, _), (2, _), (3, _), (4, _), (5, _), (6, _), (7, _)] rfl ?_
                          refine ks_sub [(0, _), (1, _), (2, _), (3, _), (4, _), (8, _)] rfl ?_
                          exact l_rn267n (hno _ ⟨v3.1.trans (v4.mono (by decide)), W4, ⟨_, _, _, O4⟩, X4.row, _, _, _, _, _, _, _, _, _, _, _, M4⟩ hr.symm)
                        | some q =>
                          rw [hak] at y4 hr
                          obtain ⟨rfl, v4, u4, l4, m4, O4⟩ := y4
                          simp only [] at hr
                          have W4 : mcW T4 := W3.up v4.1 (by decide)
                          have hgB : gB op ≤ k + 32 * (opsN op ops - ops) := by unfold gB; split; omega; have := hogt (by omega); omega
                          have X4 := X3.up v4.1 (by decide)
                          have v4' : stV LRn T3 T4 u := ⟨v4.1.mono (by decide), v4.2⟩
                          have s4 := v3.trans v4' hu0
                          refine ks_istore dX7_run_265 (by decide) rfl ?_
                          refine ks_sub [(8, _), (0, _), (1, _), (2, _), (3, _), (4, _), (5, _), (6, _), (7, _)] rfl ?_
                          refine ks_sub [(0, _), (1, _), (2, _), (3, _), (4, _), (8, _)] rfl ?_
                          refine l_rn267 M4 O4 (fun h => ?_) (fun h => ?_)
                          · rw [if_pos h] at hr
                            exact hno _ ⟨s4.1, W4, ⟨_, _, _, O4⟩, X4.row, _, _, _, _, _, _, _, _, _, _, _, M4⟩ hr.symm
                          · rw [if_neg (by omega)] at hr
                            refine hnx T4 (pos + k) (if op = 171 then pos + k else pb) (opsN op ops) u4 q.1 q.2 cs (by omega) ⟨s4, W4, O4, X4, R3.step v4' (by rcases hcy with h | h; exact Or.inl h; exact Or.inr ⟨h.1, h.2.1, by omega⟩), ⟨_, _, _, _, M4⟩, by omega, by omega, hon, by omega, h, by split <;> omega, by split <;> omega, by omega⟩ ?_
                            rw [if_neg (show ¬ (172 ≤ op ∧ op ≤ 175) by omega)] at hr
                            rw [← hr]
                            split <;> rfl
                      · refine ks_aload_n dX7_run_248 rfl rfl ?_
                        refine ks_iload dX7_run_249 rfl rfl ?_
                        rw [if_neg (by omega), if_pos (by omega)] at hr
                        rw [if_neg (by omega), if_neg (by omega), if_pos (by omega)] at hr
                        obtain ⟨wc, wh, ⟨g28, kg28, w28⟩, wi, wl⟩ := id W3
                        refine ks_callV (n := 1) (M' := mX7_hashTop) (c_mc_hashTop (d := d + 1) (op := op) M3 O3 (by omega) wh w28 kg28 (v3.1.st hK (by unfold ks_B; decide)) (by have := hogt (by omega); omega)) M3 cl_X7 rfl kx_1648 kx_1650 kxp_42 kx_24 kx_1651 (by decide +kernel) rfl (by decide) (Nat.le_of_ble_eq_true rfl) rfl dX7_run_251 rfl (fun z4 T4 y4 => ?_)
                        obtain ⟨y4, H4, g2, kg2, w2⟩ := y4
                        cases hak : htS op xs ys with
                        | none =>
                          rw [hak] at y4 hr
                          obtain ⟨rfl, v4, O4⟩ := y4
                          obtain ⟨obi, wi⟩ := wi
                          obtain ⟨obl, wl⟩ := wl
                          have W4 : mcW T4 := ⟨wc.up v4 (by decide), H4, ⟨g2, kg2, w2⟩, ⟨obi, wi.up v4 (by decide) (by decide)⟩, obl, wl.up v4 (by decide) (by decide)⟩
                          have M4 := v4.at M3 (by decide)
                          obtain ⟨xs4, ys4, u4, O4⟩ := O4
                          have X4 := X3.up v4 (by decide)
                          refine ks_istore dX7_run_254 (by decide) rfl ?_
                          refine ks_sub [(8, _), (0, _), (1, _), (2, _), (3, _), (4, _), (5, _), (6, _), (7, _)] rfl ?_
                          refine ks_goto (tgt := 267) dX7_run_256 (by decide) ?_
                          refine ks_sub [(0, _), (1, _), (2, _), (3, _), (4, _), (8, _)] rfl ?_
                          exact l_rn267n (hno _ ⟨v3.1.trans (v4.mono (by decide)), W4, ⟨_, _, _, O4⟩, X4.row, _, _, _, _, _, _, _, _, _, _, _, M4⟩ hr.symm)
                        | some q =>
                          rw [hak] at y4 hr
                          obtain ⟨rfl, v4, u4, l4, m4, O4⟩ := y4
                          simp only [] at hr
                          obtain ⟨obi, wi⟩ := wi
                          obtain ⟨obl, wl⟩ := wl
                          have W4 : mcW T4 := ⟨wc.up v4.1 (by decide), H4, ⟨g2, kg2, w2⟩, ⟨obi, wi.up v4.1 (by decide) (by decide)⟩, obl, wl.up v4.1 (by decide) (by decide)⟩
                          have M4 := v4.1.at M3 (by decide)
                          have X4 := X3.up v4.1 (by decide)
                          have v4' : stV LRn T3 T4 u := ⟨v4.1.mono (by decide), v4.2⟩
                          have s4 := v3.trans v4' hu0
                          refine ks_istore dX7_run_254 (by decide) rfl ?_
                          refine ks_sub [(8, _), (0, _), (1, _), (2, _), (3, _), (4, _), (5, _), (6, _), (7, _)] rfl ?_
                          refine ks_goto (tgt := 267) dX7_run_256 (by decide) ?_
                          refine ks_sub [(0, _), (1, _), (2, _), (3, _), (4, _), (8, _)] rfl ?_
                          refine l_rn267 M4 O4 (fun h => ?_) (fun h => ?_)
                          · rw [if_pos h] at hr
                            exact hno _ ⟨s4.1, W4, ⟨_, _, _, O4⟩, X4.row, _, _, _, _, _, _, _, _, _, _, _, M4⟩ hr.symm
                          · rw [if_neg (by omega)] at hr
                            have h1 := hogt (by omega)
                            rw [if_neg (by omega), if_neg (by omega)] at hr
                            exact hnx T4 (pos + k) pb (opsN op ops) u4 q.1 q.2 cs (by omega) ⟨s4, W4, O4, X4, R3.step v4' (by rcases hcy with h | h; exact Or.inl h; exact Or.inr ⟨h.1, h.2.1, by omega⟩), ⟨_, _, _, _, M4⟩, by omega, by omega, hon, by omega, h, hfb, by omega, by omega⟩ hr.symm
                · refine ks_aload_n dX7_run_213 rfl rfl ?_
                  refine ks_iload dX7_run_214 rfl rfl ?_
                  rw [if_neg (by omega), if_pos (by omega)] at hr
                  rw [if_neg (by omega), if_pos (by omega)] at hr
                  refine ks_callV (n := 1) (M' := mX7_ask) (c_mc_ask (d := d) hma M3 O3 W3 (hV.up v3.1 (by decide)) (v3.1.at hy9 (by simp only [List.mem_cons, List.not_mem_nil, or_false, not_or]; omega)) hg9 hL9 hN9 hi9 he9 hyn (v3.1.st hK (by unfold ks_B; decide)) g3 kg1 hNc (by omega) hti (by omega) hc38 (Ne.symm hc27) (by omega) (by omega) (by omega) (by omega) hon) M3 cl_X7 rfl kx_1584 kx_1586 kxp_37 kx_24 kx_1587 (by decide +kernel) rfl (by decide) (Nat.le_of_ble_eq_true rfl) rfl dX7_run_216 rfl (fun z4 T4 y4 => ?_)
                  rw [eB pb] at y4
                  obtain ⟨y4, W4, o2, j1, j2, j3, j4, M4, ho3⟩ := y4
                  cases hak : akS (fun code k s => ecG k s (sgH g9 L9 b9 k9 p9 m9 u9 e9 inp (s.getD (s.length - 1) 0) code)) op xs ys (opsN op ops) (bytL gc pb (till - pb)) with
                  | none =>
                    rw [hak] at y4 hr
                    obtain ⟨rfl, v4, O4⟩ := y4
                    obtain ⟨xs4, ys4, u4, O4⟩ := O4
                    have X4 := X3.up v4 (by decide)
                    refine ks_istore dX7_run_219 (by decide) rfl ?_
                    refine ks_sub [(8, _), (0, _), (1, _), (2, _), (3, _), (4, _), (5, _), (6, _), (7, _)] rfl ?_
                    refine ks_goto (tgt := 267) dX7_run_221 (by decide) ?_
                    refine ks_sub [(0, _), (1, _), (2, _), (3, _), (4, _), (8, _)] rfl ?_
                    exact l_rn267n (hno _ ⟨v3.1.trans (v4.mono (by decide)), W4, ⟨_, _, _, O4⟩, X4.row, _, _, _, _, _, _, _, _, _, _, _, M4⟩ hr.symm)
                  | some q =>
                    rw [hak] at y4 hr ho3
                    obtain ⟨rfl, v4, u4, l4, m4, O4⟩ := y4
                    simp only [] at hr
                    have ho4 := ho3 rfl
                    have hq1 : akO op xs (opsN op ops) ≤ 201 ∧ opsN op ops ≤ akO op xs (opsN op ops) := akO_b hak hon
                    rw [ho4] at M4
                    have X4 := X3.up v4.1 (by decide)
                    have v4' : stV LRn T3 T4 u := ⟨v4.1.mono (by decide), v4.2⟩
                    have s4 := v3.trans v4' hu0
                    refine ks_istore dX7_run_219 (by decide) rfl ?_
                    refine ks_sub [(8, _), (0, _), (1, _), (2, _), (3, _), (4, _), (5, _), (6, _), (7, _)] rfl ?_
                    refine ks_goto (tgt := 267) dX7_run_221 (by decide) ?_
                    refine ks_sub [(0, _), (1, _), (2, _), (3, _), (4, _), (8, _)] rfl ?_
                    refine l_rn267 M4 O4 (fun h => ?_) (fun h => ?_)
                    · rw [if_pos h] at hr
                      exact hno _ ⟨s4.1, W4, ⟨_, _, _, O4⟩, X4.row, _, _, _, _, _, _, _, _, _, _, _, M4⟩ hr.symm
                    · rw [if_neg (by omega)] at hr
                      have h1 := hogt (by omega)
                      rw [if_neg (by omega), if_pos (by omega)] at hr
                      exact hnx T4 (pos + k) pb (akO op xs (opsN op ops)) u4 q.1 q.2 cs (by omega) ⟨s4, W4, O4, X4, R3.step v4' (by rcases hcy with h | h; exact Or.inl h; exact Or.inr ⟨h.1, h.2.1, by omega⟩), ⟨_, _, _, _, M4⟩, by omega, by omega, hq1.1, by omega, h, hfb, by omega, by omega⟩ hr.symm
            · refine ks_aload_n dX7_run_174 rfl rfl ?_
              refine ks_getf (T := TX7) (kf := 3) kx_646 rfl in_X7 cl_X7 (by decide) M3 rfl dX7_run_175 rfl ?_
              refine ks_aload_n dX7_run_178 rfl rfl ?_
              refine ks_getf (T := TX7) (kf := 9) kx_652 rfl in_X7 cl_X7 (by decide) M3 rfl dX7_run_179 rfl ?_
              refine ks_iload dX7_run_182 rfl rfl ?_
              refine ks_iload dX7_run_184 rfl rfl ?_
              refine ks_iload dX7_run_186 rfl rfl ?_
              refine ks_subN (by omega) dX7_run_188 rfl ?_
              rw [if_neg (by omega), if_pos (by omega)] at hr
              rw [if_pos (by omega), eT] at hr
              have h520 := hn520 (by omega)
              rw [show pos + k - (pos + hdS op) = k - hdS op by omega]
              refine ks_callV (n := 3) (M' := mX8_add) (c_st_add (d := d + 4) (s := pos + hdS op) (c := k - hdS op) O3 g3 kg1 (by omega) hNc (by omega) (by omega) hc29) O3.ob cl_X8 rfl kx_1579 kx_1580 kx_1581 kx_25 kx_1582 (by decide +kernel) rfl (by decide) (Nat.le_of_ble_eq_true rfl) rfl dX7_run_189 rfl (fun z4 T4 y4 => ?_)
              obtain ⟨rfl, v4, O4⟩ := y4
              have M4 := v4.1.at M3 (by decide)
              have X4 := X3.up v4.1 (by decide)
              have W4 : mcW T4 := W3.up v4.1 (by decide)
              have v4' : stV LRn T3 T4 u := v4.v (by decide)
              have s4 := v3.trans v4' hu0
              simp only [] at hr
              refine ks_istore dX7_run_192 (by decide) rfl ?_
              refine ks_sub [(8, _), (0, _), (1, _), (2, _), (3, _), (4, _), (5, _), (6, _), (7, _)] rfl ?_
              refine ks_goto (tgt := 267) dX7_run_194 (by decide) ?_
              refine ks_sub [(0, _), (1, _), (2, _), (3, _), (4, _), (8, _)] rfl ?_
              refine l_rn267 M4 O4 (fun h => ?_) (fun h => ?_)
              · rw [if_pos h] at hr
                exact hno _ ⟨s4.1, W4, ⟨_, _, _, O4⟩, X4.row, _, _, _, _, _, _, _, _, _, _, _, M4⟩ hr.symm
              · rw [if_neg (by omega), if_neg (by omega), if_neg (by omega)] at hr
                exact hnx T4 (pos + k) pb (opsN op ops) (u + (k - hdS op)) _ ys cs (by omega) ⟨s4, W4, O4, X4, R3.step v4' (by rcases hcy with h | h; exact Or.inl h; exact Or.inr ⟨h.1, h.2.1, by omega⟩), ⟨_, _, _, _, M4⟩, by omega, by omega, hon, by omega, h, hfb, by omega, by omega⟩ hr.symm
        · refine ks_aload_n dX7_run_149 rfl rfl ?_
          refine ks_iload dX7_run_150 rfl rfl ?_
          have hbo : op = 99 ∨ op = 100 ∨ op = 103 ∨ op = 104 := by
            have := hbad (by omega)
            have h9 := of_decide_eq_false this
            omega
          have hlt : cs.length < 202 := by have := hogt (by omega); omega
          rw [if_pos (by omega)] at hr
          refine ks_callV (n := 1) (M' := mX7_branch) (c_mc_branch (d := d + 4) M3 O3 X3 hlt hbo) M3 cl_X7 rfl kx_1567 kx_1569 kxp_36 kx_24 kx_1570 (by decide +kernel) rfl (by decide) (Nat.le_of_ble_eq_true rfl) rfl dX7_run_152 rfl (fun z4 T4 y4 => ?_)
          cases hbr : brS op xs cs with
          | none =>
            rw [hbr] at y4 hr
            obtain ⟨rfl, hT⟩ := y4
            obtain rfl := hT.symm
            refine ks_istore dX7_run_155 (by decide) rfl ?_
            refine ks_sub [(8, _), (0, _), (1, _), (2, _), (3, _), (4, _), (5, _), (6, _), (7, _)] rfl ?_
            refine ks_goto (tgt := 267) dX7_run_157 (by decide) ?_
            refine ks_sub [(0, _), (1, _), (2, _), (3, _), (4, _), (8, _)] rfl ?_
            exact l_rn267n (hno _ fail3 hr.symm)
          | some q =>
            rw [hbr] at y4 hr
            obtain ⟨rfl, v4, O4, X4, M4⟩ := y4
            simp only [] at hr
            have hql : q.2.length ≤ cs.length + 1 := brS_len hbr
            have W4 : mcW T4 := W3.up v4.1 (by decide)
            have v4' : stV LRn T3 T4 u := ⟨v4.1.mono (by decide), v4.2⟩
            have s4 := v3.trans v4' hu0
            refine ks_istore dX7_run_155 (by decide) rfl ?_
            refine ks_sub [(8, _), (0, _), (1, _), (2, _), (3, _), (4, _), (5, _), (6, _), (7, _)] rfl ?_
            refine ks_goto (tgt := 267) dX7_run_157 (by decide) ?_
            refine ks_sub [(0, _), (1, _), (2, _), (3, _), (4, _), (8, _)] rfl ?_
            refine l_rn267 M4 O4 (fun h => ?_) (fun h => ?_)
            · rw [if_pos h] at hr
              exact hno _ ⟨s4.1, W4, ⟨_, _, _, O4⟩, X4.row, _, _, _, _, _, _, _, _, _, _, _, M4⟩ hr.symm
            · rw [if_neg (by omega)] at hr
              have h1 := hogt (by omega)
              exact hnx T4 (pos + k) pb (opsN op ops) u q.1 ys q.2 (by omega) ⟨s4, W4, O4, X4, R3.step v4' (by rcases hcy with h | h; exact Or.inl h; exact Or.inr ⟨h.1, h.2.1, by omega⟩), ⟨_, _, _, _, M4⟩, hu0, by omega, hon, by omega, h, hfb, by omega, by omega⟩ hr.symm
    · refine ks_iconst (x := nI 0) dX7_run_130 (by decide) rfl ?_
      refine ks_zret rfl rfl dX7_run_131 ?_
      rw [if_neg (by rw [h3]; decide)] at hr
      exact hno _ fail3 hr.symm

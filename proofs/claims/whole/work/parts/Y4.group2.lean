/-! THE CURVE over any field: sums make a group -/
theorem vTr.sc {F : Type} [Lean.Grind.CommRing F] {iv : F → F} (h : fdG iv) {l : F} (hl : l ≠ 0) {T : F × F × F} (v : vTr T) : vTr (scT l T) := by
  obtain ⟨v1, v2⟩ := v
  refine ⟨?_, fun e => v2 ⟨(h.dom _ _ e.1).resolve_left hl, (h.dom _ _ e.2.1).resolve_left hl, (h.dom _ _ e.2.2).resolve_left hl⟩⟩
  show l * T.2.1 * (l * T.2.1) * (l * T.2.2) = l * T.1 * (l * T.1) * (l * T.1) + 7 * (l * T.2.2 * (l * T.2.2) * (l * T.2.2))
  grind
theorem emE_v {F : Type} [Lean.Grind.CommRing F] {iv : F → F} (h : fdG iv) : ∀ {P : Option (F × F)}, onE P → vTr (emE P)
  | none, _ => ⟨by show (1 : F) * 1 * 0 = 0 * 0 * 0 + 7 * (0 * 0 * 0); grind, fun e => h.2.2.2 e.2.1⟩
  | some q, o => ⟨by
      have o' : q.2 * q.2 = q.1 * q.1 * q.1 + 7 := o
      show q.2 * q.2 * 1 = q.1 * q.1 * q.1 + 7 * (1 * 1 * 1)
      grind, fun e => h.2.2.2 e.2.2⟩
theorem emE_y {F : Type} [Lean.Grind.CommRing F] {iv : F → F} (h : fdG iv) : ∀ {P : Option (F × F)}, onE P → (emE P).2.1 ≠ 0
  | none, _ => h.2.2.2
  | some _, o => h.y0 o
theorem fdG.n2 {F : Type} [Lean.Grind.CommRing F] {iv : F → F} (h : fdG iv) : (2 : F) ≠ 0 := fun e => h.2.2.2 (h.2.1 1 (by grind))
theorem cad_vs {F : Type} [Lean.Grind.CommRing F] {iv : F → F} (h : fdG iv) {x1 y1 x2 y2 : F} (o1 : y1 * y1 = x1 * x1 * x1 + 7) (o2 : y2 * y2 = x2 * x2 * x2 + 7) : vTr (cad (x1, y1, 1) (x2, y2, 1)) ∧ (x1 ≠ x2 → ccZ x1 y1 1 x2 y2 1 ≠ 0) := by
  have n1 := h.y0 o1
  by_cases c : x1 = x2
  · refine ⟨?_, fun x => absurd c x⟩
    have c2 : (y2 - y1) * (y2 + y1) = 0 := by rw [← c] at o2; grind
    rcases h.dom _ _ c2 with e | e
    · have e' : y2 = y1 := by grind
      rw [← c, e']
      have z : ccZ x1 y1 1 x1 y1 1 = 2 * (2 * 2) * (y1 * (y1 * y1)) := by unfold ccZ; grind
      refine ⟨?_, fun x => ?_⟩
      · show ccY x1 y1 1 x1 y1 1 * ccY x1 y1 1 x1 y1 1 * ccZ x1 y1 1 x1 y1 1 = ccX x1 y1 1 x1 y1 1 * ccX x1 y1 1 x1 y1 1 * ccX x1 y1 1 x1 y1 1 + 7 * (ccZ x1 y1 1 x1 y1 1 * ccZ x1 y1 1 x1 y1 1 * ccZ x1 y1 1 x1 y1 1)
        unfold ccX ccY ccZ
        grind
      · have x3 : ccZ x1 y1 1 x1 y1 1 = 0 := x.2.2
        rw [z] at x3
        exact h.ne (h.ne h.n2 (h.ne h.n2 h.n2)) (h.ne n1 (h.ne n1 n1)) x3
    · have e' : y2 = -y1 := by grind
      rw [← c, e']
      have zx : ccX x1 y1 1 x1 (-y1) 1 = 0 := by unfold ccX; grind
      have zz : ccZ x1 y1 1 x1 (-y1) 1 = 0 := by unfold ccZ; grind
      have zy : ccY x1 y1 1 x1 (-y1) 1 = y1 * y1 * (y1 * y1) + 126 * (y1 * y1) - 1323 := by unfold ccY; grind
      refine ⟨?_, fun x => ?_⟩
      · show ccY x1 y1 1 x1 (-y1) 1 * ccY x1 y1 1 x1 (-y1) 1 * ccZ x1 y1 1 x1 (-y1) 1 = ccX x1 y1 1 x1 (-y1) 1 * ccX x1 y1 1 x1 (-y1) 1 * ccX x1 y1 1 x1 (-y1) 1 + 7 * (ccZ x1 y1 1 x1 (-y1) 1 * ccZ x1 y1 1 x1 (-y1) 1 * ccZ x1 y1 1 x1 (-y1) 1)
        rw [zx, zz]
        grind
      · have x3 : ccY x1 y1 1 x1 (-y1) 1 = 0 := x.2.1
        rw [zy] at x3
        refine h.cb (X := 9 * (x1 * x1 * x1 * x1) - 8 * (x1 * (y1 * y1))) (D := 2 * 2 * (y1 * y1)) (h.ne (h.ne h.n2 h.n2) (h.ne n1 n1)) ?_
        have e3 : (9 * (x1 * x1 * x1 * x1) - 8 * (x1 * (y1 * y1))) * (9 * (x1 * x1 * x1 * x1) - 8 * (x1 * (y1 * y1))) * (9 * (x1 * x1 * x1 * x1) - 8 * (x1 * (y1 * y1))) + 7 * (2 * 2 * (y1 * y1) * (2 * 2 * (y1 * y1)) * (2 * 2 * (y1 * y1))) = (y1 * y1 * (y1 * y1) + 126 * (y1 * y1) - 1323) * (y1 * y1 * (y1 * y1) + 126 * (y1 * y1) - 1323) := by grind
        rw [e3, x3]
        grind
  · have d0 : x2 - x1 ≠ 0 := fun e => c (by grind)
    obtain ⟨hZ, hX⟩ := ch_id o1 o2
    have hY := ch_idY o1 o2
    have z0 : ccZ x1 y1 1 x2 y2 1 ≠ 0 := fun e => by
      rw [hZ] at e
      refine h.cb (X := (y1 + y2) * (y1 + y2) - (x2 - x1) * (x2 - x1) * (x1 + x2)) (D := (x2 - x1) * (x2 - x1)) (h.ne d0 d0) ?_
      have e3 : ((y1 + y2) * (y1 + y2) - (x2 - x1) * (x2 - x1) * (x1 + x2)) * ((y1 + y2) * (y1 + y2) - (x2 - x1) * (x2 - x1) * (x1 + x2)) * ((y1 + y2) * (y1 + y2) - (x2 - x1) * (x2 - x1) * (x1 + x2)) + 7 * ((x2 - x1) * (x2 - x1) * ((x2 - x1) * (x2 - x1)) * ((x2 - x1) * (x2 - x1))) = (-(y1 + y2) * ((x2 - x1) * (x2 - x1) * (2 * x1 + x2) - (y1 + y2) * (y1 + y2)) - y1 * ((x2 - x1) * (x2 - x1) * (x2 - x1))) * (-(y1 + y2) * ((x2 - x1) * (x2 - x1) * (2 * x1 + x2) - (y1 + y2) * (y1 + y2)) - y1 * ((x2 - x1) * (x2 - x1) * (x2 - x1))) := by
        have o2' : -y2 * -y2 = x2 * x2 * x2 + 7 := by clear e hZ hX hY o1; grind
        have q := ch_on (d := x2 - x1) (m := -y2 - y1) o1 o2' rfl rfl rfl rfl
        clear e hZ hX hY o1 o2 o2'
        have eX : (-y2 - y1) * (-y2 - y1) - (x2 - x1) * (x2 - x1) * (x1 + x2) = (y1 + y2) * (y1 + y2) - (x2 - x1) * (x2 - x1) * (x1 + x2) := by clear q; grind
        have eY : (-y2 - y1) * (x1 * ((x2 - x1) * (x2 - x1)) - ((-y2 - y1) * (-y2 - y1) - (x2 - x1) * (x2 - x1) * (x1 + x2))) - y1 * ((x2 - x1) * (x2 - x1) * (x2 - x1)) = -(y1 + y2) * ((x2 - x1) * (x2 - x1) * (2 * x1 + x2) - (y1 + y2) * (y1 + y2)) - y1 * ((x2 - x1) * (x2 - x1) * (x2 - x1)) := by clear q eX; grind
        rw [eY, eX] at q
        rw [q]
        generalize (y1 + y2) * (y1 + y2) - (x2 - x1) * (x2 - x1) * (x1 + x2) = Xm
        generalize x2 - x1 = d9
        clear q eX eY
        grind
      rw [e3, e]
      grind
    have on := ch_on o1 o2 rfl rfl rfl rfl
    refine ⟨⟨?_, fun x => z0 x.2.2⟩, fun _ => z0⟩
    show ccY x1 y1 1 x2 y2 1 * ccY x1 y1 1 x2 y2 1 * ccZ x1 y1 1 x2 y2 1 = ccX x1 y1 1 x2 y2 1 * ccX x1 y1 1 x2 y2 1 * ccX x1 y1 1 x2 y2 1 + 7 * (ccZ x1 y1 1 x2 y2 1 * ccZ x1 y1 1 x2 y2 1 * ccZ x1 y1 1 x2 y2 1)
    generalize ccX x1 y1 1 x2 y2 1 = X at *
    generalize ccY x1 y1 1 x2 y2 1 = Y at *
    generalize ccZ x1 y1 1 x2 y2 1 = Z at *
    generalize (y2 - y1) * (x1 * ((x2 - x1) * (x2 - x1)) - ((y2 - y1) * (y2 - y1) - (x2 - x1) * (x2 - x1) * (x1 + x2))) - y1 * ((x2 - x1) * (x2 - x1) * (x2 - x1)) = Yn at *
    generalize (y2 - y1) * (y2 - y1) - (x2 - x1) * (x2 - x1) * (x1 + x2) = Xn at *
    generalize x2 - x1 = d at *
    clear hZ
    have k1 : d * d * d * (d * d * d) * (Y * Y * Z - (X * X * X + 7 * (Z * Z * Z))) = 0 := by
      have a1 : d * d * d * (d * d * d) * (Y * Y * Z - (X * X * X + 7 * (Z * Z * Z))) = Y * (d * d * d) * (Y * (d * d * d)) * Z - (X * (d * d) * (X * (d * d)) * (X * (d * d)) + 7 * (Z * Z * Z) * (d * d * d * (d * d * d))) := by grind
      rw [a1, hY, hX]
      have a2 : Z * Yn * (Z * Yn) * Z - (Z * Xn * (Z * Xn) * (Z * Xn) + 7 * (Z * Z * Z) * (d * d * d * (d * d * d))) = Z * Z * Z * (Yn * Yn - (Xn * Xn * Xn + 7 * (d * d * d * (d * d * d)))) := by grind
      rw [a2, on]
      grind
    have d3 := h.ne (h.ne (h.ne d0 d0) d0) (h.ne (h.ne d0 d0) d0)
    have := (h.dom _ _ k1).resolve_left d3
    grind
theorem cad_v {F : Type} [Lean.Grind.CommRing F] {iv : F → F} (h : fdG iv) : ∀ {P Q : Option (F × F)}, onE P → onE Q → vTr (cad (emE P) (emE Q))
  | none, Q, _, oQ => by
    show vTr (cad (0, 1, 0) (emE Q))
    rw [cad_o]
    exact (emE_v h oQ).sc h (emE_y h oQ)
  | some p, none, oP, _ => by
    show vTr (cad (emE (some p)) (0, 1, 0))
    rw [cad_comm, cad_o]
    exact (emE_v h oP).sc h (emE_y h oP)
  | some _, some _, oP, oQ => (cad_vs h oP oQ).1
theorem nrE_on {F : Type} [Lean.Grind.CommRing F] {iv : F → F} (h : fdG iv) {T : F × F × F} (v : vTr T) : onE (nrE iv T) := by
  by_cases c : T.2.2 = 0
  · rw [nrE_0 c]; trivial
  · rw [nrE_1 c]
    have h1 := h.1 _ c
    have v1 := v.1
    show T.2.1 * iv T.2.2 * (T.2.1 * iv T.2.2) = T.1 * iv T.2.2 * (T.1 * iv T.2.2) * (T.1 * iv T.2.2) + 7
    generalize iv T.2.2 = i at *
    generalize T.2.2 = z at *
    generalize T.2.1 = y at *
    generalize T.1 = x at *
    have a1 : y * i * (y * i) = y * y * z * (i * i * i) := by
      have : y * y * z * (i * i * i) = y * i * (y * i) * (z * i) := by grind
      rw [this, h1]
      grind
    have a2 : 7 * (z * z * z) * (i * i * i) = 7 := by
      have : 7 * (z * z * z) * (i * i * i) = 7 * (z * i * (z * i) * (z * i)) := by grind
      rw [this, h1]
      grind
    rw [a1, v1]
    grind
theorem nrE_sc {F : Type} [Lean.Grind.CommRing F] {iv : F → F} (h : fdG iv) {T : F × F × F} (v : vTr T) : ∃ l, l ≠ 0 ∧ T = scT l (emE (nrE iv T)) := by
  obtain ⟨x, y, z⟩ := T
  have v1 : y * y * z = x * x * x + 7 * (z * z * z) := v.1
  have v2 : ¬ (x = 0 ∧ y = 0 ∧ z = 0) := v.2
  by_cases c : z = 0
  · have x0 : x = 0 := by
      have : x * (x * x) = 0 := by rw [c] at v1; grind
      rcases h.dom _ _ this with e | e
      · exact e
      · rcases h.dom _ _ e with e | e <;> exact e
    have y0 : y ≠ 0 := fun e => v2 ⟨x0, e, c⟩
    refine ⟨y, y0, ?_⟩
    rw [nrE_0 (T := (x, y, z)) c]
    show (x, y, z) = (y * 0, y * 1, y * 0)
    rw [x0, c]
    refine Prod.ext ?_ (Prod.ext ?_ ?_)
    · show (0 : F) = y * 0; grind
    · show y = y * 1; grind
    · show (0 : F) = y * 0; grind
  · refine ⟨z, c, ?_⟩
    rw [nrE_1 (T := (x, y, z)) c]
    have h1 := h.1 z c
    show (x, y, z) = (z * (x * iv z), z * (y * iv z), z * 1)
    refine Prod.ext ?_ (Prod.ext ?_ ?_)
    · show x = z * (x * iv z); grind
    · show y = z * (y * iv z); grind
    · show z = z * 1; grind
theorem nrE_l {F : Type} [Lean.Grind.CommRing F] {iv : F → F} (h : fdG iv) {l : F} (hl : l ≠ 0) (T : F × F × F) : nrE iv (scT l T) = nrE iv T := by
  by_cases c : T.2.2 = 0
  · rw [nrE_0 c, nrE_0 (T := scT l T) (by show l * T.2.2 = 0; rw [c]; grind)]
  · have hz : l * T.2.2 ≠ 0 := h.ne hl c
    rw [nrE_1 c, nrE_1 (T := scT l T) hz]
    have h1 := h.1 _ c
    have h2 := h.1 _ hz
    show some (l * T.1 * iv (l * T.2.2), l * T.2.1 * iv (l * T.2.2)) = some (T.1 * iv T.2.2, T.2.1 * iv T.2.2)
    generalize iv (l * T.2.2) = j at *
    generalize iv T.2.2 = i at *
    have e : l * j = i := by
      have : l * j = l * j * (T.2.2 * i) := by rw [h1]; grind
      rw [this]
      have : l * j * (T.2.2 * i) = l * T.2.2 * j * i := by grind
      rw [this, h2]
      grind
    rw [← e]
    congr 1
    refine Prod.ext ?_ ?_
    · show l * T.1 * j = T.1 * (l * j); grind
    · show l * T.2.1 * j = T.2.1 * (l * j); grind
theorem nrE_em {F : Type} [Lean.Grind.CommRing F] {iv : F → F} (h : fdG iv) : ∀ P : Option (F × F), nrE iv (emE P) = P
  | none => nrE_0 rfl
  | some q => by
    rw [nrE_1 (T := emE (some q)) h.2.2.2]
    have h1 := h.1 1 h.2.2.2
    have h2 : iv (1 : F) = 1 := by grind
    show some (q.1 * iv 1, q.2 * iv 1) = some q
    rw [h2]
    congr 1
    refine Prod.ext ?_ ?_
    · show q.1 * 1 = q.1; grind
    · show q.2 * 1 = q.2; grind
theorem mnr_nr {F : Type} [Lean.Grind.CommRing F] {iv : F → F} (h : fdG iv) {T T' : F × F × F} (v : vTr T) (v' : vTr T') (m : mnr T T') : nrE iv T = nrE iv T' := by
  obtain ⟨l, hl, e⟩ := nrE_sc h v
  obtain ⟨l', hl', e'⟩ := nrE_sc h v'
  obtain ⟨m1, m2, m3⟩ := m
  by_cases c : T.2.2 = 0 <;> by_cases c' : T'.2.2 = 0
  · rw [nrE_0 c, nrE_0 c']
  · rw [c] at m2 m3
    have a1 : T.1 = 0 := (h.dom T.1 T'.2.2 (by grind)).resolve_right c'
    have a2 : T.2.1 = 0 := (h.dom T.2.1 T'.2.2 (by grind)).resolve_right c'
    exact absurd ⟨a1, a2, c⟩ v.2
  · rw [c'] at m2 m3
    have a1 : T'.1 = 0 := (h.dom T'.1 T.2.2 (by grind)).resolve_right c
    have a2 : T'.2.1 = 0 := (h.dom T'.2.1 T.2.2 (by grind)).resolve_right c
    exact absurd ⟨a1, a2, c'⟩ v'.2
  · rw [nrE_1 c, nrE_1 c']
    have h1 := h.1 _ c
    have h2 := h.1 _ c'
    clear e e'
    generalize iv T.2.2 = i at *
    generalize iv T'.2.2 = j at *
    congr 1
    refine Prod.ext ?_ ?_
    · show T.1 * i = T'.1 * j
      have a1 : T.1 * i = T.1 * T'.2.2 * (i * j) := by
        have : T.1 * T'.2.2 * (i * j) = T.1 * i * (T'.2.2 * j) := by grind
        rw [this, h2]; grind
      have a2 : T'.1 * j = T'.1 * T.2.2 * (i * j) := by
        have : T'.1 * T.2.2 * (i * j) = T'.1 * j * (T.2.2 * i) := by grind
        rw [this, h1]; grind
      rw [a1, a2]; grind
    · show T.2.1 * i = T'.2.1 * j
      have a1 : T.2.1 * i = T.2.1 * T'.2.2 * (i * j) := by
        have : T.2.1 * T'.2.2 * (i * j) = T.2.1 * i * (T'.2.2 * j) := by grind
        rw [this, h2]; grind
      have a2 : T'.2.1 * j = T'.2.1 * T.2.2 * (i * j) := by
        have : T'.2.1 * T.2.2 * (i * j) = T'.2.1 * j * (T.2.2 * i) := by grind
        rw [this, h1]; grind
      rw [a1, a2]; grind
theorem as_E {F : Type} [Lean.Grind.CommRing F] {iv : F → F} (h : fdG iv) (ha : asA F) : ∀ {P Q R : Option (F × F)}, onE P → onE Q → onE R → asO (emE P) (emE Q) (emE R)
  | none, Q, R, _, _, _ => by
    show mnr (cad (cad (0, 1, 0) (emE Q)) (emE R)) (cad (0, 1, 0) (cad (emE Q) (emE R)))
    rw [cad_o, cad_o, ← scT_1 (emE R), cad_sc, scT_1]
    exact mnr_sc _ _ _
  | some p, none, R, _, _, _ => by
    show mnr (cad (cad (emE (some p)) (0, 1, 0)) (emE R)) (cad (emE (some p)) (cad (0, 1, 0) (emE R)))
    rw [cad_comm (emE (some p)) (0, 1, 0), cad_o, cad_o]
    have e1 : cad (scT (emE (some p)).2.1 (emE (some p))) (emE R) = scT ((emE (some p)).2.1 * (emE (some p)).2.1 * (1 * 1)) (cad (emE (some p)) (emE R)) := by
      have := cad_sc (emE (some p)).2.1 1 (emE (some p)) (emE R)
      rw [scT_1] at this
      exact this
    have e2 : cad (emE (some p)) (scT (emE R).2.1 (emE R)) = scT (1 * 1 * ((emE R).2.1 * (emE R).2.1)) (cad (emE (some p)) (emE R)) := by
      have := cad_sc 1 (emE R).2.1 (emE (some p)) (emE R)
      rw [scT_1] at this
      exact this
    rw [e1, e2]
    exact mnr_sc _ _ _
  | some p, some q, none, _, _, _ => by
    show mnr (cad (cad (emE (some p)) (emE (some q))) (0, 1, 0)) (cad (emE (some p)) (cad (emE (some q)) (0, 1, 0)))
    rw [cad_comm _ (0, 1, 0), cad_comm (emE (some q)) (0, 1, 0), cad_o, cad_o]
    have e2 : cad (emE (some p)) (scT (emE (some q)).2.1 (emE (some q))) = scT (1 * 1 * ((emE (some q)).2.1 * (emE (some q)).2.1)) (cad (emE (some p)) (emE (some q))) := by
      have := cad_sc 1 (emE (some q)).2.1 (emE (some p)) (emE (some q))
      rw [scT_1] at this
      exact this
    rw [e2]
    exact mnr_sc _ _ _
  | some p, some q, some k, oP, oQ, oR => ha p.1 p.2 q.1 q.2 k.1 k.2 oP oQ oR
theorem gaE_on {F : Type} [Lean.Grind.CommRing F] {iv : F → F} (h : fdG iv) {P Q : Option (F × F)} (oP : onE P) (oQ : onE Q) : onE (gaE iv P Q) := nrE_on h (cad_v h oP oQ)
theorem gaE_comm {F : Type} [Lean.Grind.CommRing F] {iv : F → F} (P Q : Option (F × F)) : gaE iv P Q = gaE iv Q P := by
  unfold gaE
  rw [cad_comm]
theorem gaE_o {F : Type} [Lean.Grind.CommRing F] {iv : F → F} (h : fdG iv) {P : Option (F × F)} (oP : onE P) : gaE iv none P = P := by
  show nrE iv (cad (0, 1, 0) (emE P)) = P
  rw [cad_o, nrE_l h (emE_y h oP), nrE_em h]
theorem gaE_o2 {F : Type} [Lean.Grind.CommRing F] {iv : F → F} (h : fdG iv) {P : Option (F × F)} (oP : onE P) : gaE iv P none = P := by rw [gaE_comm]; exact gaE_o h oP
theorem gaE_as {F : Type} [Lean.Grind.CommRing F] {iv : F → F} (h : fdG iv) (ha : asA F) {P Q R : Option (F × F)} (oP : onE P) (oQ : onE Q) (oR : onE R) : gaE iv (gaE iv P Q) R = gaE iv P (gaE iv Q R) := by
  obtain ⟨l, hl, e⟩ := nrE_sc h (cad_v h oP oQ)
  obtain ⟨k, hk, e'⟩ := nrE_sc h (cad_v h oQ oR)
  have e1 : cad (cad (emE P) (emE Q)) (emE R) = scT (l * l * (1 * 1)) (cad (emE (gaE iv P Q)) (emE R)) := by
    have := cad_sc l 1 (emE (gaE iv P Q)) (emE R)
    rw [scT_1] at this
    rw [← this]
    unfold gaE
    rw [← e]
  have e2 : cad (emE P) (cad (emE Q) (emE R)) = scT (1 * 1 * (k * k)) (cad (emE P) (emE (gaE iv Q R))) := by
    have := cad_sc 1 k (emE P) (emE (gaE iv Q R))
    rw [scT_1] at this
    rw [← this]
    unfold gaE
    rw [← e']
  have n1 : l * l * (1 * 1) ≠ 0 := h.ne (h.ne hl hl) (h.ne h.2.2.2 h.2.2.2)
  have n2 : 1 * 1 * (k * k) ≠ 0 := h.ne (h.ne h.2.2.2 h.2.2.2) (h.ne hk hk)
  have a := as_E h ha oP oQ oR
  unfold asO at a
  rw [e1, e2] at a
  have := mnr_nr h ((cad_v h (gaE_on h oP oQ) oR).sc h n1) ((cad_v h oP (gaE_on h oQ oR)).sc h n2) a
  rw [nrE_l h n1, nrE_l h n2] at this
  exact this
theorem ngE_on {F : Type} [Lean.Grind.CommRing F] : ∀ {P : Option (F × F)}, onE P → onE (ngE P)
  | none, _ => trivial
  | some q, o => by
    have o' : q.2 * q.2 = q.1 * q.1 * q.1 + 7 := o
    show -q.2 * -q.2 = q.1 * q.1 * q.1 + 7
    grind
theorem gaE_ng {F : Type} [Lean.Grind.CommRing F] {iv : F → F} (h : fdG iv) : ∀ {P : Option (F × F)}, onE P → gaE iv P (ngE P) = none
  | none, _ => gaE_o h (P := none) trivial
  | some q, _ => nrE_0 (by
      show ccZ q.1 q.2 1 q.1 (-q.2) 1 = 0
      unfold ccZ
      grind)
theorem gaE_can {F : Type} [Lean.Grind.CommRing F] {iv : F → F} (h : fdG iv) (ha : asA F) {A P Q : Option (F × F)} (oA : onE A) (oP : onE P) (oQ : onE Q) (e : gaE iv A P = gaE iv A Q) : P = Q := by
  have h1 : ∀ X, onE X → gaE iv (ngE A) (gaE iv A X) = X := fun X oX => by
    rw [← gaE_as h ha (ngE_on oA) oA oX, gaE_comm (ngE A) A, gaE_ng h oA, gaE_o h oX]
  rw [← h1 P oP, ← h1 Q oQ, e]

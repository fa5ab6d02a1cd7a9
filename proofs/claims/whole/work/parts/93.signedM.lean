/-! WHAT IS SIGNED, by a block's bytes alone -/
set_option maxHeartbeats 200000 in
theorem catL_c {α : Type} {f f2 : α → List Nat} {l : List α} (h : ∀ x ∈ l, f x = f2 x) : catL f l = catL f2 l := by
  unfold catL
  rw [List.map_congr_left h]
set_option maxHeartbeats 200000 in
theorem sgIn_c {f g : Nat → Nat} {L : Nat} (h : ∀ j, j < L → f j = g j) {b k p m u e : Nat} (ht : tx_ g b L = some (k, p, m, u, e)) {inp kd : Nat} {code : List Nat} {i : Nat} (hi : i < k) : sgIn f L p inp kd code i = sgIn g L p inp kd code i := by
  have q := tx_in ht i hi
  unfold sgIn
  rw [iA_c h, iS_c h, iZ_c h, bytL_congr (f := f) (g := g) (i := iA g L p i) (i2 := iA g L p i) (n := 36) (fun j hj => h _ (by omega)), bytL_congr (f := f) (g := g) (i := iS g L p i + iZ g L p i) (i2 := iS g L p i + iZ g L p i) (n := 4) (fun j hj => h _ (by omega))]
set_option maxHeartbeats 200000 in
theorem sgOut_c {f g : Nat → Nat} {L : Nat} (h : ∀ j, j < L → f j = g j) {b k p m u e : Nat} (ht : tx_ g b L = some (k, p, m, u, e)) {inp kd : Nat} {i : Nat} (hi : i < m) : sgOut f L u inp kd i = sgOut g L u inp kd i := by
  have q := tx_out ht i hi
  have q2 := tx_bd ht
  unfold sgOut
  rw [oA_c h, oS_c h, oZ_c h, bytL_congr (f := f) (g := g) (i := oA g L u i) (i2 := oA g L u i) (n := oS g L u i + oZ g L u i - oA g L u i) (fun j hj => h _ (by omega))]
set_option maxHeartbeats 200000 in
theorem sgH_c {f g : Nat → Nat} {L : Nat} (h : ∀ j, j < L → f j = g j) {b k p m u e : Nat} (ht : tx_ g b L = some (k, p, m, u, e)) {inp ty : Nat} {code : List Nat} (hi : inp < k) : sgH f L b k p m u e inp ty code = sgH g L b k p m u e inp ty code := by
  unfold sgH
  split
  · rfl
  · next h3 =>
    have q2 := tx_bd ht
    have e1 : sgL f L b k p m u e inp ty code = sgL g L b k p m u e inp ty code := by
      unfold sgL
      rw [bytL_congr (f := f) (g := g) (i := b) (i2 := b) (n := 4) (fun j hj => h _ (by omega)), bytL_congr (f := f) (g := g) (i := e - 4) (i2 := e - 4) (n := 4) (fun j hj => h _ (by omega))]
      rw [catL_c (f := sgIn f L p inp (ty % 32) code) (f2 := sgIn g L p inp (ty % 32) code) (fun x hx => by
        obtain ⟨y, hy, rfl⟩ := List.mem_map.mp hx
        have hy2 := List.mem_range.mp hy
        refine sgIn_c h ht ?_
        unfold sgN at hy2
        unfold sgI0
        split at hy2
        · next c => rw [if_pos c]; omega
        · next c => rw [if_neg c]; omega)]
      rw [catL_c (f := sgOut f L u inp (ty % 32)) (f2 := sgOut g L u inp (ty % 32)) (fun x hx => by
        obtain ⟨y, hy, rfl⟩ := List.mem_map.mp hx
        have hy2 := List.mem_range.mp hy
        refine sgOut_c h ht ?_
        unfold sgSh at hy2
        split at hy2
        · omega
        · split at hy2 <;> omega)]
    rw [e1]
set_option maxHeartbeats 200000 in
theorem lkB_c {f g : Nat → Nat} {L : Nat} (h : ∀ j, j < L → f j = g j) {b k p m u e : Nat} (ht : tx_ g b L = some (k, p, m, u, e)) {i : Nat} (hi : i < k) : lkB f L p e i = lkB g L p e i := by
  have q2 := tx_bd ht
  funext v
  unfold lkB
  rw [ks_num_congr 4 (e - 4) (e - 4) (fun j hj => h _ (by omega)), seq_c h ht hi]
def gdM (M : List Nat) (t i : Nat) (code k s : List Nat) : Bool := ecG k s (sgH (mg M) M.length (bsP M t) (txP M t).1 (txP M t).2.1 (txP M t).2.2.1 (txP M t).2.2.2.1 (txP M t).2.2.2.2 i (s.getD (s.length - 1) 0) code)
def lkM (M : List Nat) (t i : Nat) : Int → Bool := lkB (mg M) M.length (txP M t).2.1 (txP M t).2.2.2.2 i
/-- a script of an output, by its coin -/
def lkS (B : Nat → Bk) (c : Nat) : List Nat := bytL (mg (bkM (B (c / 2 ^ 23)))) (scA (mg (bkM (B (c / 2 ^ 23)))) c) (scZ (mg (bkM (B (c / 2 ^ 23)))) c)
/-- whether input i of transaction t unlocks a coin -/
def ukM (B : Nat → Bk) (M : List Nat) (t i c : Nat) : Bool := ulS (gdM M t i) (lkM M t i) (scI (mg M) M.length (txP M t).2.1 i) (lkS B c)
/-- a coin is an output of a block -/
def cnG (n : Nat) (B : Nat → Bk) (c : Nat) : Prop := ∃ b t o, b < n ∧ t < mg (bkM (B b)) 80 ∧ o < (txP (bkM (B b)) t).2.2.1 ∧ c = cnI (bkM (B b)) b t o
set_option maxHeartbeats 200000 in
theorem rc_sc {g : Nat → Nat} {p L z s : Nat} (h : rc g p L L = some (z, s)) : s = p + (if g p = 253 then 3 else 1) ∧ z = if g p = 253 then ks_num g (p + 1) 2 else g p := by
  unfold rc at h
  split at h
  · cases h
  · split at h
    · next c =>
      split at h
      · cases h
        rw [if_neg (by omega), if_neg (by omega)]
        exact ⟨rfl, rfl⟩
      · cases h
    · split at h
      · next c =>
        cases h
        rw [if_pos c.1, if_pos c.1]
        exact ⟨rfl, rfl⟩
      · cases h
set_option maxHeartbeats 200000 in
/-- where the script of a coin lies -/
theorem cnG_sc {S : ks_S} {n : Nat} {B : Nat → Bk} (hB : ∀ i, i < n → bkK S (B i)) (hn : n ≤ 60) {c : Nat} (h : cnG n B c) : cnR n B c ∧ scA (mg (bkM (B (c / 2 ^ 23)))) c + scZ (mg (bkM (B (c / 2 ^ 23)))) c ≤ (bkM (B (c / 2 ^ 23))).length := by
  obtain ⟨b, t, o, h1, h2, h3, h4⟩ := h
  have r := cnI_R (hB b h1) h1 hn h2 h3
  obtain ⟨g1, f2, g3, g4, q1, q2, q3, q4, q5⟩ := hB b h1
  have b9 := blk_b q4
  have e1 := tx_out (bk_tx5 q4 h2) o h3
  have e2 := tx_bd (bk_tx5 q4 h2)
  have d := @cnI_d (bkM (B b)) b t o (by omega) (by omega) (by omega) (by omega)
  rw [h4]
  refine ⟨r.1, ?_⟩
  rw [r.2]
  have e3 := rc_sc e1.2.1
  unfold scA scZ
  rw [d.2.2.2.2]
  rw [show oA (mg (bkM (B b))) (bkM (B b)).length (txP (bkM (B b)) t).2.2.2.1 o + 9 = oA (mg (bkM (B b))) (bkM (B b)).length (txP (bkM (B b)) t).2.2.2.1 o + 8 + 1 from rfl]
  rw [← e3.1, ← e3.2]
  omega

/-! TRANSACTIONS OF A BLOCK, by its bytes alone -/
set_option maxHeartbeats 200000 in
theorem iA_c {f g : Nat → Nat} {L : Nat} (h : ∀ j, j < L → f j = g j) (p i : Nat) : iA f L p i = iA g L p i := by unfold iA; rw [ip_congr h]
set_option maxHeartbeats 200000 in
theorem iZ_c {f g : Nat → Nat} {L : Nat} (h : ∀ j, j < L → f j = g j) (p i : Nat) : iZ f L p i = iZ g L p i := by unfold iZ; rw [iA_c h, rc_congr h]
set_option maxHeartbeats 200000 in
theorem iS_c {f g : Nat → Nat} {L : Nat} (h : ∀ j, j < L → f j = g j) (p i : Nat) : iS f L p i = iS g L p i := by unfold iS; rw [iA_c h, rc_congr h]
set_option maxHeartbeats 200000 in
theorem oA_c {f g : Nat → Nat} {L : Nat} (h : ∀ j, j < L → f j = g j) (p i : Nat) : oA f L p i = oA g L p i := by unfold oA; rw [ot_congr h]
set_option maxHeartbeats 200000 in
theorem oZ_c {f g : Nat → Nat} {L : Nat} (h : ∀ j, j < L → f j = g j) (p i : Nat) : oZ f L p i = oZ g L p i := by unfold oZ; rw [oA_c h, rc_congr h]
set_option maxHeartbeats 200000 in
theorem oS_c {f g : Nat → Nat} {L : Nat} (h : ∀ j, j < L → f j = g j) (p i : Nat) : oS f L p i = oS g L p i := by unfold oS; rw [oA_c h, rc_congr h]
set_option maxHeartbeats 200000 in
theorem seq_c {f g : Nat → Nat} {L : Nat} (h : ∀ j, j < L → f j = g j) {b k p m u e : Nat} (ht : tx_ g b L = some (k, p, m, u, e)) {i : Nat} (hi : i < k) : seq_ f L p i = seq_ g L p i := by
  have q := tx_in ht i hi
  unfold seq_
  rw [iS_c h, iZ_c h]
  exact ks_num_congr 4 _ _ (fun j hj => h _ (by omega))
set_option maxHeartbeats 200000 in
theorem val_c {f g : Nat → Nat} {L : Nat} (h : ∀ j, j < L → f j = g j) {b k p m u e : Nat} (ht : tx_ g b L = some (k, p, m, u, e)) {i : Nat} (hi : i < m) : val_ f L u i = val_ g L u i := by
  have q := tx_out ht i hi
  have q2 := tx_bd ht
  unfold val_
  rw [oA_c h]
  exact ks_num_congr 8 _ _ (fun j hj => h _ (by omega))
set_option maxHeartbeats 200000 in
theorem sum_c {x y : Nat → Nat} : ∀ {n : Nat}, (∀ i, i < n → x i = y i) → sum_ x n = sum_ y n
  | 0, _ => rfl
  | n + 1, q => by
    show sum_ x n + x n = sum_ y n + y n
    rw [sum_c (fun i hi => q i (by omega)), q n (by omega)]
set_option maxHeartbeats 200000 in
theorem vals_c {f g : Nat → Nat} {L : Nat} (h : ∀ j, j < L → f j = g j) {b k p m u e : Nat} (ht : tx_ g b L = some (k, p, m, u, e)) : sum_ (val_ f L u) m = sum_ (val_ g L u) m := sum_c (fun i hi => val_c h ht hi)
set_option maxHeartbeats 200000 in
theorem scI_c {f g : Nat → Nat} {L : Nat} (h : ∀ j, j < L → f j = g j) {b k p m u e : Nat} (ht : tx_ g b L = some (k, p, m, u, e)) {i : Nat} (hi : i < k) : scI f L p i = scI g L p i := by
  have q := tx_in ht i hi
  unfold scI
  rw [iS_c h, iZ_c h]
  exact bytL_congr (fun j hj => h _ (by omega))
set_option maxHeartbeats 200000 in
theorem scO_c {f g : Nat → Nat} {L : Nat} (h : ∀ j, j < L → f j = g j) {b k p m u e : Nat} (ht : tx_ g b L = some (k, p, m, u, e)) {i : Nat} (hi : i < m) : scO f L u i = scO g L u i := by
  have q := tx_out ht i hi
  have q2 := tx_bd ht
  unfold scO
  rw [oS_c h, oZ_c h]
  exact bytL_congr (fun j hj => h _ (by omega))
set_option maxHeartbeats 200000 in
theorem asT_c {f g : Nat → Nat} {L : Nat} (h : ∀ j, j < L → f j = g j) {b k p m u e : Nat} (ht : tx_ g b L = some (k, p, m, u, e)) : asT f L k p m u = asT g L k p m u := by
  unfold asT
  rw [sum_c (x := fun i => ask_ (scI f L p i)) (y := fun i => ask_ (scI g L p i)) (fun i hi => by show ask_ _ = ask_ _; rw [scI_c h ht hi]), sum_c (x := fun i => ask_ (scO f L u i)) (y := fun i => ask_ (scO g L u i)) (fun i hi => by show ask_ _ = ask_ _; rw [scO_c h ht hi])]
set_option maxHeartbeats 200000 in
theorem none_c {f g : Nat → Nat} {L : Nat} (h : ∀ j, j < L → f j = g j) {b k p m u e : Nat} (ht : tx_ g b L = some (k, p, m, u, e)) {i : Nat} (hi : i < k) : none_b f (iA f L p i) = none_b g (iA g L p i) := by
  have q := tx_in ht i hi
  unfold none_b
  rw [iA_c h]
  congr 1
  · rw [Bool.eq_iff_iff, List.all_eq_true, List.all_eq_true]
    exact ⟨fun z j hj => by have := z j hj; have h9 := List.mem_range.mp hj; rw [h _ (by omega)] at this; exact this, fun z j hj => by have := z j hj; have h9 := List.mem_range.mp hj; rw [h _ (by omega)]; exact this⟩
  · rw [ks_num_congr 4 (iA g L p i + 32) (iA g L p i + 32) (fun j hj => h _ (by omega))]
set_option maxHeartbeats 200000 in
theorem dup_c {f g : Nat → Nat} {L : Nat} (h : ∀ j, j < L → f j = g j) {b k p m u e : Nat} (ht : tx_ g b L = some (k, p, m, u, e)) {i : Nat} (hi : i < k) : dup_b f L p i = dup_b g L p i := by
  have q := tx_in ht i hi
  unfold dup_b
  rw [Bool.eq_iff_iff, List.any_eq_true, List.any_eq_true]
  have key : ∀ j, j < i → (List.range 36).all (fun q => f (iA f L p j + q) == f (iA f L p i + q)) = (List.range 36).all (fun q => g (iA g L p j + q) == g (iA g L p i + q)) := fun j hj => by
    have q2 := tx_in ht j (by omega)
    rw [iA_c h, iA_c h, Bool.eq_iff_iff, List.all_eq_true, List.all_eq_true]
    exact ⟨fun z x hx => by have := z x hx; have h9 := List.mem_range.mp hx; rw [h _ (by omega), h _ (by omega)] at this; exact this, fun z x hx => by have := z x hx; have h9 := List.mem_range.mp hx; rw [h _ (by omega), h _ (by omega)]; exact this⟩
  exact ⟨fun ⟨j, hj, hz⟩ => ⟨j, hj, by rw [← key j (List.mem_range.mp hj)]; exact hz⟩, fun ⟨j, hj, hz⟩ => ⟨j, hj, by rw [key j (List.mem_range.mp hj)]; exact hz⟩⟩
set_option maxHeartbeats 200000 in
theorem rf_c {f g : Nat → Nat} {L : Nat} (h : ∀ j, j < L → f j = g j) {b k p m u e : Nat} (ht : tx_ g b L = some (k, p, m, u, e)) (first : Bool) : rf_ f L k p m u first = rf_ g L k p m u first := by
  unfold rf_
  have e1 : (decide (k = 1) && none_b f (iA f L p 0)) = (decide (k = 1) && none_b g (iA g L p 0)) := by
    by_cases c : k = 1
    · rw [none_c h ht (by omega : 0 < k)]
    · rw [decide_eq_false c, Bool.false_and, Bool.false_and]
  have e2 : fit_b f L u m = fit_b g L u m := by
    unfold fit_b
    rw [vals_c h ht]
    exact decide_eq_decide.mpr ⟨fun z => ⟨fun i hi => by rw [← val_c h ht hi]; exact z.1 i hi, z.2⟩, fun z => ⟨fun i hi => by rw [val_c h ht hi]; exact z.1 i hi, z.2⟩⟩
  have e3 : (∃ i, i < k ∧ (none_b f (iA f L p i) = true ∨ dup_b f L p i = true)) ↔ (∃ i, i < k ∧ (none_b g (iA g L p i) = true ∨ dup_b g L p i = true)) := ⟨fun ⟨i, hi, z⟩ => ⟨i, hi, by rw [← none_c h ht hi, ← dup_c h ht hi]; exact z⟩, fun ⟨i, hi, z⟩ => ⟨i, hi, by rw [none_c h ht hi, dup_c h ht hi]; exact z⟩⟩
  rw [e1, e2, iZ_c h]
  by_cases c3 : ∃ i, i < k ∧ (none_b g (iA g L p i) = true ∨ dup_b g L p i = true)
  · rw [if_pos (e3.mpr c3), if_pos c3]
  · rw [if_neg (fun z => c3 (e3.mp z)), if_neg c3]
set_option maxHeartbeats 200000 in
theorem last_c {f g : Nat → Nat} {L : Nat} (h : ∀ j, j < L → f j = g j) {b k p m u e : Nat} (ht : tx_ g b L = some (k, p, m, u, e)) (hh t : Nat) : last_b f L k p e hh t = last_b g L k p e hh t := by
  have q2 := tx_bd ht
  unfold last_b
  rw [ks_num_congr 4 (e - 4) (e - 4) (fun j hj => h _ (by omega))]
  exact decide_eq_decide.mpr ⟨fun z => z.imp_right (fun z => z.imp_right (fun z i hi => by rw [← seq_c h ht hi]; exact z i hi)), fun z => z.imp_right (fun z => z.imp_right (fun z i hi => by rw [seq_c h ht hi]; exact z i hi))⟩
/-- transaction t of a block: inputs, where they begin, outputs, where they begin, end -/
def txP (M : List Nat) (t : Nat) : Nat × Nat × Nat × Nat × Nat := (tx_ (mg M) (bsP M t) M.length).getD (0, 0, 0, 0, 0)
set_option maxHeartbeats 200000 in
theorem bs_tx {g : Nat → Nat} {n : Nat} : ∀ {t a : Nat}, bs_ g n (t + 1) = some a → ∃ b k p m u, bs_ g n t = some b ∧ tx_ g b n = some (k, p, m, u, a) := by
  intro t a h
  simp only [bs_] at h
  split at h
  · cases h
  · next b hb =>
    split at h
    · cases h
    · next k p m u e he =>
      cases h
      exact ⟨b, k, p, m, u, hb, he⟩
set_option maxHeartbeats 200000 in
theorem bs_some {g : Nat → Nat} {n : Nat} : ∀ {t a : Nat}, bs_ g n t = some a → ∀ s, s ≤ t → ∃ b, bs_ g n s = some b ∧ b ≤ a
  | 0, a, h, s, hs => ⟨a, by rw [show s = 0 by omega]; exact h, Nat.le_refl _⟩
  | t + 1, a, h, s, hs => by
    by_cases e : s = t + 1
    · exact ⟨a, by rw [e]; exact h, Nat.le_refl _⟩
    · obtain ⟨b, k, p, m, u, hb, ht⟩ := bs_tx h
      have := tx_bd ht
      obtain ⟨c, hc, hl⟩ := bs_some hb s (by omega)
      exact ⟨c, hc, by omega⟩
set_option maxHeartbeats 200000 in
/-- all transactions of a block are there -/
theorem bk_tx {M : List Nat} (h : blk_ (mg M) M.length = true) {t : Nat} (ht : t < mg M 80) : bs_ (mg M) M.length t = some (bsP M t) ∧ bs_ (mg M) M.length (t + 1) = some (bsP M (t + 1)) ∧ tx_ (mg M) (bsP M t) M.length = some (txP M t) ∧ (txP M t).2.2.2.2 = bsP M (t + 1) ∧ bsP M t < bsP M (t + 1) ∧ bsP M (t + 1) ≤ M.length := by
  have hb := (of_decide_eq_true h).2.2
  obtain ⟨a1, h1, l1⟩ := bs_some hb (t + 1) (by omega)
  obtain ⟨b, k, p, m, u, h0, hx⟩ := bs_tx h1
  have q := tx_bd hx
  have e0 : bsP M t = b := by unfold bsP; rw [h0]; rfl
  have e1 : bsP M (t + 1) = a1 := by unfold bsP; rw [h1]; rfl
  have e2 : txP M t = (k, p, m, u, a1) := by unfold txP; rw [e0, hx]; rfl
  rw [e0, e1, e2]
  exact ⟨h0, h1, hx, rfl, by omega, by omega⟩
def rfM (M : List Nat) (t : Nat) : Nat := rf_ (mg M) M.length (txP M t).1 (txP M t).2.1 (txP M t).2.2.1 (txP M t).2.2.2.1 (decide (t = 0))
def asM (M : List Nat) (t : Nat) : Nat := asT (mg M) M.length (txP M t).1 (txP M t).2.1 (txP M t).2.2.1 (txP M t).2.2.2.1
def laM (M : List Nat) (h : Nat) (t : Nat) : Bool := last_b (mg M) M.length (txP M t).1 (txP M t).2.1 (txP M t).2.2.2.2 h (tmB M)
def vaM (M : List Nat) (t : Nat) : Nat := sum_ (val_ (mg M) M.length (txP M t).2.2.2.1) (txP M t).2.2.1
set_option maxHeartbeats 200000 in
theorem rf_le (g : Nat → Nat) (L k p m u : Nat) (first : Bool) : rf_ g L k p m u first ≤ 8 := by
  unfold rf_
  split
  · decide
  · split
    · decide
    · split
      · split <;> decide
      · split <;> decide
/-- the first reason of a transaction alone -/
def r1F (M : List Nat) : Nat → Nat → Nat
  | 0, _ => 0
  | c + 1, t => if rfM M t = 0 then r1F M c (t + 1) else rfM M t
def idsF (M : List Nat) : Nat → Nat := fun j => idB M (j / 32) (j % 32)
def sameF (M : List Nat) : Bool := (List.range (mg M 80)).any (fun p => (List.range p).any (fun q => sm32 (idB M p) 0 (idB M q) 0))
set_option maxHeartbeats 200000 in
theorem sameF_iff {M : List Nat} : sameF M = true ↔ ∃ p q, p < mg M 80 ∧ q < p ∧ sm32 (idB M p) 0 (idB M q) 0 = true := by
  unfold sameF
  rw [List.any_eq_true]
  constructor
  · rintro ⟨p, hp, hz⟩
    rw [List.any_eq_true] at hz
    obtain ⟨q, hq, hs⟩ := hz
    exact ⟨p, q, List.mem_range.mp hp, List.mem_range.mp hq, hs⟩
  · rintro ⟨p, q, hp, hq, hs⟩
    exact ⟨p, List.mem_range.mpr hp, List.any_eq_true.mpr ⟨q, List.mem_range.mpr hq, hs⟩⟩
/-- the reason to refuse the transactions of a block -/
def rtF (M : List Nat) (h : Nat) : Nat := if mg M 80 = 0 then 7 else if sm32 (root_ (idsF M) (mg M 80)) 0 (mg M) 36 = false ∨ sameF M = true then 6 else if r1F M (mg M 80) 0 ≠ 0 then r1F M (mg M 80) 0 else if 60 < sum_ (asM M) (mg M 80) then 9 else if ∃ t, t < mg M 80 ∧ laM M h t = false then 10 else 0
set_option maxHeartbeats 200000 in
theorem root_c {f g : Nat → Nat} {c : Nat} (h : ∀ j, j < 32 * c → f j = g j) : ∀ j, j < 32 → root_ f c j = root_ g c j := fun j hj => by
  unfold root_
  split
  · rfl
  · exact rt_congr c c h (by omega) (by omega) j hj

/-! ROWS OF COINS as sets -/
def kyU (B : Nat → Bk) (R : List Nat) : Prop := ∀ i j, i < R.length → j < R.length → keR B (R.getD i 0) = keR B (R.getD j 0) → i = j
theorem mem_gd {R : List Nat} {x : Nat} : x ∈ R ↔ ∃ i, i < R.length ∧ R.getD i 0 = x := by
  constructor
  · intro h
    obtain ⟨i, hi, e⟩ := List.mem_iff_getElem.mp h
    exact ⟨i, hi, by rw [← e]; simp [List.getD, hi]⟩
  · rintro ⟨i, hi, rfl⟩
    exact getD_mem hi
theorem gd_at {R : List Nat} {i : Nat} (h : i < R.length) : R[i] = R.getD i 0 := by simp [List.getD, h]
theorem kyU.el {B : Nat → Bk} {R : List Nat} (h : kyU B R) {x y : Nat} (hx : x ∈ R) (hy : y ∈ R) (e : keR B x = keR B y) : x = y := by
  obtain ⟨i, hi, rfl⟩ := mem_gd.mp hx
  obtain ⟨j, hj, rfl⟩ := mem_gd.mp hy
  rw [h i j hi hj e]
theorem kyU_pw {B : Nat → Bk} {R : List Nat} : kyU B R ↔ R.Pairwise (fun a b => keR B a ≠ keR B b) := by
  rw [List.pairwise_iff_getElem]
  constructor
  · intro h i j hi hj hij e
    rw [gd_at hi, gd_at hj] at e
    have := h i j hi hj e
    omega
  · intro h i j hi hj e
    rcases Nat.lt_trichotomy i j with c | c | c
    · exact absurd (by rw [gd_at hi, gd_at hj]; exact e) (h i j hi hj c)
    · exact c
    · exact absurd (by rw [gd_at hi, gd_at hj]; exact e.symm) (h j i hj hi c)
theorem kyU.nd {B : Nat → Bk} {R : List Nat} (h : kyU B R) : R.Nodup := (kyU_pw.mp h).imp (fun h e => h (by rw [e]))
/-- two rows of the same coins -/
def cRel (B : Nat → Bk) (R X : List Nat) : Prop := kyU B R ∧ kyU B X ∧ ∀ x, x ∈ R ↔ x ∈ X
theorem cRel.pm {B : Nat → Bk} {R X : List Nat} (h : cRel B R X) : R.Perm X := (List.perm_ext_iff_of_nodup h.1.nd h.2.1.nd).mpr h.2.2
theorem cRel.len {B : Nat → Bk} {R X : List Nat} (h : cRel B R X) : R.length = X.length := h.pm.length_eq
theorem plD_0 {f : Nat → Bool} : ∀ {c i : Nat}, plD f c i = 0 → ∀ j, i ≤ j → j < i + c → f j = false
  | 0, i, _, j, h1, h2 => by omega
  | c + 1, i, h, j, h1, h2 => by
    rw [plD] at h
    split at h
    · omega
    · next hf =>
      by_cases e : j = i
      · rw [e]; cases hh : f i
        · rfl
        · exact absurd hh hf
      · exact plD_0 h j (by omega) (by omega)
theorem plR_0 {B : Nat → Bk} {ix : Nat} {id : Nat → Nat} {R : List Nat} (h : plR B ix id R = 0) : ∀ x ∈ R, keR B x ≠ (ix, bytL id 0 32) := fun x hx e => by
  obtain ⟨i, hi, rfl⟩ := mem_gd.mp hx
  have := plD_0 h i (Nat.zero_le _) (by omega)
  rw [rmIs_k.mpr e] at this
  cases this
theorem plR_s {B : Nat → Bk} {ix : Nat} {id : Nat → Nat} {R : List Nat} (h : plR B ix id R ≠ 0) : plR B ix id R - 1 < R.length ∧ keR B (R.getD (plR B ix id R - 1) 0) = (ix, bytL id 0 32) := by
  obtain ⟨p, hp⟩ : ∃ p, plR B ix id R = p + 1 := ⟨plR B ix id R - 1, by omega⟩
  have q := plD_ok hp
  rw [hp]
  exact ⟨by omega, rmIs_k.mp q.1⟩
theorem plR_ne {B : Nat → Bk} {ix : Nat} {id : Nat → Nat} {R : List Nat} {x : Nat} (hx : x ∈ R) (e : keR B x = (ix, bytL id 0 32)) : plR B ix id R ≠ 0 := fun h => plR_0 h x hx e
theorem cRel.pl {B : Nat → Bk} {R X : List Nat} (h : cRel B R X) {ix : Nat} {id : Nat → Nat} : (plR B ix id R = 0 ↔ plR B ix id X = 0) ∧ (plR B ix id R ≠ 0 → R.getD (plR B ix id R - 1) 0 = X.getD (plR B ix id X - 1) 0) := by
  have i1 : plR B ix id R = 0 → plR B ix id X = 0 := fun c => by
    by_cases d : plR B ix id X = 0
    · exact d
    · obtain ⟨s1, s2⟩ := plR_s d
      exact absurd s2 (plR_0 c _ ((h.2.2 _).mpr (getD_mem s1)))
  have i2 : plR B ix id X = 0 → plR B ix id R = 0 := fun c => by
    by_cases d : plR B ix id R = 0
    · exact d
    · obtain ⟨s1, s2⟩ := plR_s d
      exact absurd s2 (plR_0 c _ ((h.2.2 _).mp (getD_mem s1)))
  refine ⟨⟨i1, i2⟩, fun c => ?_⟩
  obtain ⟨s1, s2⟩ := plR_s c
  obtain ⟨r1, r2⟩ := plR_s (fun d => c (i2 d))
  exact h.2.1.el ((h.2.2 _).mp (getD_mem s1)) (getD_mem r1) (s2.trans r2.symm)
theorem cRel.fc {B : Nat → Bk} {R X : List Nat} (h : cRel B R X) {M : List Nat} {t h9 : Nat} : ∀ (u i s : Nat), fcR B M t h9 R u i s = fcR B M t h9 X u i s
  | 0, i, s => rfl
  | u + 1, i, s => by
    have q : (fiR B M t R i = 0 ↔ fiR B M t X i = 0) ∧ (fiR B M t R i ≠ 0 → R.getD (fiR B M t R i - 1) 0 = X.getD (fiR B M t X i - 1) 0) := h.pl
    unfold fcR
    by_cases c : fiR B M t R i = 0
    · rw [if_pos c, if_pos (q.1.mp c)]
    · rw [if_neg c, if_neg (fun d => c (q.1.mpr d)), q.2 c, h.fc u]
/-- a coin more, or in another's place -/
def adE (B : Nat → Bk) (ix : Nat) (id : Nat → Nat) (e : Nat) (R : List Nat) : List Nat := if plR B ix id R = 0 then R ++ [e] else R.set (plR B ix id R - 1) e
theorem adE_k {B : Nat → Bk} {ix : Nat} {id : Nat → Nat} {e : Nat} {R : List Nat} (h : kyU B R) (he : keR B e = (ix, bytL id 0 32)) : kyU B (adE B ix id e R) ∧ ∀ x, x ∈ adE B ix id e R ↔ x = e ∨ (x ∈ R ∧ keR B x ≠ keR B e) := by
  unfold adE
  by_cases c : plR B ix id R = 0
  · rw [if_pos c]
    have hn := plR_0 c
    refine ⟨?_, fun x => ?_⟩
    · rw [kyU_pw, List.pairwise_append]
      refine ⟨kyU_pw.mp h, List.pairwise_singleton _ _, fun a ha b hb => ?_⟩
      rw [List.mem_singleton.mp hb, he]
      exact hn a ha
    · rw [List.mem_append, List.mem_singleton]
      constructor
      · rintro (hx | hx)
        · exact Or.inr ⟨hx, by rw [he]; exact hn x hx⟩
        · exact Or.inl hx
      · rintro (hx | ⟨hx, -⟩)
        · exact Or.inr hx
        · exact Or.inl hx
  · rw [if_neg c]
    obtain ⟨s1, s2⟩ := plR_s c
    generalize plR B ix id R - 1 = p at s1 s2
    have hk : ∀ j, j < R.length → keR B ((R.set p e).getD j 0) = keR B (R.getD j 0) := fun j hj => by
      rw [L_set s1]
      split
      · next q => rw [q, he, s2]
      · rfl
    refine ⟨fun i j hi hj q => ?_, fun x => ?_⟩
    · rw [List.length_set] at hi hj
      rw [hk i hi, hk j hj] at q
      exact h i j hi hj q
    · constructor
      · intro hx
        obtain ⟨i, hi, rfl⟩ := mem_gd.mp hx
        rw [List.length_set] at hi
        rw [L_set s1]
        by_cases d : i = p
        · rw [if_pos d]; exact Or.inl rfl
        · rw [if_neg d]
          exact Or.inr ⟨getD_mem hi, fun q => d (h i p hi s1 (by rw [q, he, s2]))⟩
      · rintro (rfl | ⟨hx, hne⟩)
        · exact mem_gd.mpr ⟨p, by rw [List.length_set]; exact s1, by rw [L_set s1, if_pos rfl]⟩
        · obtain ⟨i, hi, rfl⟩ := mem_gd.mp hx
          refine mem_gd.mpr ⟨i, by rw [List.length_set]; exact hi, ?_⟩
          rw [L_set s1, if_neg]
          intro d
          exact hne (by rw [d, s2, he])
theorem cRel.ad {B : Nat → Bk} {R X : List Nat} (h : cRel B R X) {ix : Nat} {id : Nat → Nat} {e : Nat} (he : keR B e = (ix, bytL id 0 32)) : cRel B (adE B ix id e R) (adE B ix id e X) := by
  have a1 := adE_k h.1 he
  have a2 := adE_k h.2.1 he
  exact ⟨a1.1, a2.1, fun x => by rw [a1.2, a2.2, h.2.2]⟩
theorem radR_s {B : Nat → Bk} {b t u o : Nat} {R : List Nat} : radR B b t (u + 1) o R = radR B b t u (o + 1) (adE B o (fun j => idB (bkM (B b)) t j) (mkN b t o) R) := rfl
theorem keR_mk {B : Nat → Bk} {b t o : Nat} (ht : t < 12) (ho : o < 256) : keR B (mkN b t o) = (o, bytL (fun j => idB (bkM (B b)) t j) 0 32) := by
  unfold keR
  rw [show mkN b t o / 3072 = b by unfold mkN; omega, show mkN b t o / 256 % 12 = t by unfold mkN; omega, show mkN b t o % 256 = o by unfold mkN; omega]
theorem cRel.rad {B : Nat → Bk} {b t : Nat} (ht : t < 12) : ∀ (u o : Nat) {R X : List Nat}, o + u ≤ 256 → cRel B R X → cRel B (radR B b t u o R) (radR B b t u o X)
  | 0, o, R, X, _, h => h
  | u + 1, o, R, X, ho, h => by
    rw [radR_s, radR_s]
    exact cRel.rad ht u (o + 1) (by omega) (h.ad (keR_mk ht (by omega)))
theorem kyU.rad {B : Nat → Bk} {b t : Nat} (ht : t < 12) : ∀ (u o : Nat) {R : List Nat}, o + u ≤ 256 → kyU B R → kyU B (radR B b t u o R)
  | 0, o, R, _, h => h
  | u + 1, o, R, ho, h => by
    rw [radR_s]
    exact kyU.rad ht u (o + 1) (by omega) (adE_k h (keR_mk ht (by omega))).1

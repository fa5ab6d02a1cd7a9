/-! CONNECTING in the class and in the reference -/
/-- what an input names -/
def inK9 (M : List Nat) (t i : Nat) : Nat × List Nat := (ks_num (mg M) (inA M t i + 32) 4, bytL (fun j => mg M (inA M t i + j)) 0 32)
theorem fiR_s {B : Nat → Bk} {M : List Nat} {t i : Nat} {R : List Nat} (h : fiR B M t R i ≠ 0) : fiR B M t R i - 1 < R.length ∧ keR B (R.getD (fiR B M t R i - 1) 0) = inK9 M t i := plR_s h
theorem fiR_ne {B : Nat → Bk} {M : List Nat} {t i : Nat} {R : List Nat} {x : Nat} (hx : x ∈ R) (e : keR B x = inK9 M t i) : fiR B M t R i ≠ 0 := plR_ne hx e
theorem rmA_k {B : Nat → Bk} {R : List Nat} {p : Nat} (h : kyU B R) (hp : p < R.length) : kyU B (rmA R p) ∧ ∀ x, x ∈ rmA R p ↔ x ∈ R ∧ keR B x ≠ keR B (R.getD p 0) := by
  have at9 : ∀ j, j < R.length - 1 → (rmA R p).getD j 0 = R.getD (if j = p then R.length - 1 else j) 0 := fun j hj => by
    rw [rmA_at hp hj]
    split <;> rfl
  refine ⟨fun i j hi hj e => ?_, fun x => ⟨fun hx => ?_, fun hx => ?_⟩⟩
  · rw [rmA_len] at hi hj
    rw [at9 i hi, at9 j hj] at e
    have := h _ _ (by split <;> omega) (by split <;> omega) e
    split at this <;> split at this <;> omega
  · obtain ⟨j, hj, rfl⟩ := mem_gd.mp hx
    rw [rmA_len] at hj
    rw [at9 j hj]
    have hl : (if j = p then R.length - 1 else j) < R.length := by split <;> omega
    refine ⟨getD_mem hl, fun e => ?_⟩
    have := h _ _ hl hp e
    split at this <;> omega
  · obtain ⟨hx, hne⟩ := hx
    obtain ⟨i, hi, rfl⟩ := mem_gd.mp hx
    have hip : i ≠ p := fun e => hne (by rw [e])
    by_cases c : i < R.length - 1
    · exact mem_gd.mpr ⟨i, by rw [rmA_len]; exact c, by rw [at9 i c, if_neg hip]⟩
    · have hpl : p < R.length - 1 := by omega
      exact mem_gd.mpr ⟨p, by rw [rmA_len]; exact hpl, by rw [at9 p hpl, if_pos rfl, show R.length - 1 = i by omega]⟩
theorem tkR_k {B : Nat → Bk} {M : List Nat} {t : Nat} : ∀ (u i : Nat) (R : List Nat), kyU B R → (∀ j, i ≤ j → j < i + u → ∃ x, x ∈ R ∧ keR B x = inK9 M t j) → (∀ j k, i ≤ j → j < k → k < i + u → inK9 M t j ≠ inK9 M t k) → tkK B M t u i R ∧ kyU B (tkR B M t u i R) ∧ ∀ x, x ∈ tkR B M t u i R ↔ x ∈ R ∧ ∀ j, i ≤ j → j < i + u → keR B x ≠ inK9 M t j
  | 0, i, R, h, _, _ => ⟨trivial, h, fun x => ⟨fun hx => ⟨hx, fun j h1 h2 => by omega⟩, fun hx => hx.1⟩⟩
  | u + 1, i, R, h, hin, hd => by
    obtain ⟨x0, hx0, e0⟩ := hin i (Nat.le_refl _) (by omega)
    have hf : fiR B M t R i ≠ 0 := fiR_ne hx0 e0
    obtain ⟨s1, s2⟩ := fiR_s hf
    obtain ⟨k1, k2⟩ := rmA_k h s1
    rw [s2] at k2
    obtain ⟨q1, q2, q3⟩ := tkR_k u (i + 1) (rmA R (fiR B M t R i - 1)) k1 (fun j h1 h2 => by
      obtain ⟨x, hx, e⟩ := hin j (by omega) (by omega)
      exact ⟨x, (k2 x).mpr ⟨hx, by rw [e]; exact (hd i j (Nat.le_refl _) (by omega) (by omega)).symm⟩, e⟩) (fun j k h1 h2 h3 => hd j k (by omega) h2 (by omega))
    refine ⟨⟨hf, q1⟩, q2, fun x => ?_⟩
    show x ∈ tkR B M t u (i + 1) (rmA R (fiR B M t R i - 1)) ↔ _
    rw [q3, k2]
    constructor
    · rintro ⟨⟨hx, hne⟩, hall⟩
      refine ⟨hx, fun j h1 h2 => ?_⟩
      by_cases c : j = i
      · rw [c]; exact hne
      · exact hall j (by omega) (by omega)
    · rintro ⟨hx, hall⟩
      exact ⟨⟨hx, hall i (Nat.le_refl _) (by omega)⟩, fun j h1 h2 => hall j (by omega) (by omega)⟩
theorem tkN_sub {mk : Nat → Bool} {L : List Nat} : ∀ (i : Nat), i ≤ L.length → (tkN mk L i).Sublist (L.take i)
  | 0, _ => List.Sublist.refl _
  | i + 1, h => by
    have ih := tkN_sub (mk := mk) (L := L) i (by omega)
    rw [List.take_succ_eq_append_getElem (by omega)]
    unfold tkN
    split
    · exact ih.trans (List.sublist_append_left _ _)
    · rw [gd_at (by omega)]
      exact ih.append (List.Sublist.refl _)
theorem tkN_iff {mk : Nat → Bool} {L : List Nat} {x : Nat} : ∀ (i : Nat), x ∈ tkN mk L i ↔ ∃ j, j < i ∧ mk j = false ∧ x = L.getD j 0
  | 0 => ⟨fun h => (by cases h), fun ⟨j, h, _⟩ => by omega⟩
  | i + 1 => by
    unfold tkN
    by_cases c : mk i = true
    · rw [if_pos c, tkN_iff i]
      constructor
      · rintro ⟨j, h1, h2⟩; exact ⟨j, by omega, h2⟩
      · rintro ⟨j, h1, h2, h3⟩
        have : j ≠ i := fun e => by rw [e, c] at h2; cases h2
        exact ⟨j, by omega, h2, h3⟩
    · rw [if_neg c, List.mem_append, tkN_iff i, List.mem_singleton]
      constructor
      · rintro (⟨j, h1, h2⟩ | h)
        · exact ⟨j, by omega, h2⟩
        · exact ⟨i, by omega, by cases hh : mk i
                                 · rfl
                                 · exact absurd hh c, h⟩
      · rintro ⟨j, h1, h2, h3⟩
        by_cases e : j = i
        · exact Or.inr (by rw [h3, e])
        · exact Or.inl ⟨j, by omega, h2, h3⟩
theorem tkN_k {B : Nat → Bk} {M : List Nat} {t k : Nat} {R : List Nat} (h : kyU B R) (hf : ∀ j, j < k → fiR B M t R j ≠ 0) : kyU B (tkN (mkF (fun i => fiR B M t R i - 1) k) R R.length) ∧ ∀ x, x ∈ tkN (mkF (fun i => fiR B M t R i - 1) k) R R.length ↔ x ∈ R ∧ ∀ j, j < k → keR B x ≠ inK9 M t j := by
  refine ⟨?_, fun x => ?_⟩
  · have q := tkN_sub (mk := mkF (fun i => fiR B M t R i - 1) k) (L := R) R.length (Nat.le_refl _)
    rw [List.take_length] at q
    exact kyU_pw.mpr ((kyU_pw.mp h).sublist q)
  · rw [tkN_iff]
    constructor
    · rintro ⟨j, h1, h2, rfl⟩
      refine ⟨getD_mem h1, fun i hi e => ?_⟩
      obtain ⟨s1, s2⟩ := fiR_s (hf i hi)
      have : mkF (fun i => fiR B M t R i - 1) k j = true := mkF_iff.mpr ⟨i, hi, h _ _ s1 h1 (by rw [s2, e])⟩
      rw [this] at h2
      cases h2
    · rintro ⟨hx, hall⟩
      obtain ⟨j, hj, rfl⟩ := mem_gd.mp hx
      refine ⟨j, hj, ?_, rfl⟩
      cases hh : mkF (fun i => fiR B M t R i - 1) k j
      · rfl
      · obtain ⟨i, hi, e⟩ := mkF_iff.mp hh
        have := (fiR_s (hf i hi)).2
        rw [e] at this
        exact absurd this (hall i hi)
/-- the inputs of a transaction name different coins -/
def inD (M : List Nat) : Prop := ∀ t, 0 < t → t < mg M 80 → ∀ i j, i < j → j < (txP M t).1 → inK9 M t i ≠ inK9 M t j
theorem cRel.fi {B : Nat → Bk} {R X : List Nat} (h : cRel B R X) {M : List Nat} {t i : Nat} : (fiR B M t R i = 0 ↔ fiR B M t X i = 0) ∧ (fiR B M t R i ≠ 0 → R.getD (fiR B M t R i - 1) 0 = X.getD (fiR B M t X i - 1) 0) := h.pl
theorem cRel.tk {B : Nat → Bk} {R X : List Nat} {M : List Nat} {t : Nat} (h : cRel B R X) (hd : inD M) (h0 : 0 < t) (ht : t < mg M 80) (hf : ∀ j, j < (txP M t).1 → fiR B M t X j ≠ 0) : tkK B M t (txP M t).1 0 R ∧ cRel B (tkR B M t (txP M t).1 0 R) (tkN (mkF (fun i => fiR B M t X i - 1) (txP M t).1) X X.length) := by
  obtain ⟨a1, a2, a3⟩ := tkR_k (M := M) (t := t) (txP M t).1 0 R h.1 (fun j _ hj => by
    obtain ⟨s1, s2⟩ := fiR_s (hf j (by omega))
    exact ⟨_, (h.2.2 _).mpr (getD_mem s1), s2⟩) (fun j k _ h2 h3 => hd t h0 ht j k h2 (by omega))
  obtain ⟨b1, b2⟩ := tkN_k (M := M) (t := t) h.2.1 hf
  refine ⟨a1, a2, b1, fun x => ?_⟩
  rw [a3, b2, h.2.2]
  exact ⟨fun q => ⟨q.1, fun j hj => q.2 j (Nat.zero_le _) (by omega)⟩, fun q => ⟨q.1, fun j _ hj => q.2 j (by omega)⟩⟩
theorem rc_rel {Gp : Pt} {n : Nat} {B : Nat → Bk} {b h : Nat} (hV : blV n B) (hb : b < n) (hd : inD (bkM (B b))) : ∀ (u t : Nat) (R X : List Nat) (left : Nat), t + u = mg (bkM (B b)) 80 → cRel B R X → (rcF Gp false B (bkM (B b)) b h u t R left).1 = (xcF Gp B (bkM (B b)) b h u t X left).1 ∧ ((xcF Gp B (bkM (B b)) b h u t X left).1 = 0 → cRel B (rcF Gp false B (bkM (B b)) b h u t R left).2 (xcF Gp B (bkM (B b)) b h u t X left).2)
  | 0, t, R, X, left, _, hc => by
    unfold rcF xcF
    split <;> exact ⟨rfl, fun _ => hc⟩
  | u + 1, t, R, X, left, hu, hc => by
    have ht : t < mg (bkM (B b)) 80 := by omega
    have b9 := blk_b (hV b hb).2.1
    have q3 := tx_bd (bk_tx5 (hV b hb).2.1 ht)
    unfold rcF xcF
    by_cases c0 : t = 0
    · subst c0
      rw [if_pos rfl, if_pos rfl]
      have h1 := cRel.rad (b := b) (t := 0) (by decide) (txP (bkM (B b)) 0).2.2.1 0 (by omega) hc
      rw [h1.len]
      by_cases c1 : 400 < (radR B b 0 (txP (bkM (B b)) 0).2.2.1 0 X).length
      · rw [if_pos c1, if_pos c1]; exact ⟨rfl, fun _ => hc⟩
      · rw [if_neg c1, if_neg c1]
        exact rc_rel hV hb hd u 1 _ _ left (by omega) h1
    · rw [if_neg c0, if_neg c0, hc.fc]
      by_cases c1 : (fcR B (bkM (B b)) t h X (txP (bkM (B b)) t).1 0 0).1 ≠ 0
      · rw [if_pos c1, if_pos c1]; exact ⟨rfl, fun _ => hc⟩
      · rw [if_neg c1, if_neg c1]
        by_cases c2 : (fcR B (bkM (B b)) t h X (txP (bkM (B b)) t).1 0 0).2 < vaM (bkM (B b)) t
        · rw [if_pos c2, if_pos c2]; exact ⟨rfl, fun _ => hc⟩
        · rw [if_neg c2, if_neg c2]
          have hz := fcR_0 _ _ _ (Decidable.not_not.mp c1)
          have hf : ∀ j, j < (txP (bkM (B b)) t).1 → fiR B (bkM (B b)) t X j ≠ 0 := fun j hj => hz j (Nat.zero_le _) (by omega)
          have hk : ∀ i, i < (txP (bkM (B b)) t).1 → R.getD (fiR B (bkM (B b)) t R i - 1) 0 = X.getD (fiR B (bkM (B b)) t X i - 1) 0 := fun i hi => hc.fi.2 (fun e => hf i hi (hc.fi.1.mp e))
          have hex : (false = false ∧ ∃ i, i < (txP (bkM (B b)) t).1 ∧ ukR Gp B (bkM (B b)) t i (R.getD (fiR B (bkM (B b)) t R i - 1) 0) = false) ↔ ∃ i, i < (txP (bkM (B b)) t).1 ∧ ukR Gp B (bkM (B b)) t i (X.getD (fiR B (bkM (B b)) t X i - 1) 0) = false := ⟨fun ⟨_, i, h1, h2⟩ => ⟨i, h1, by rw [← hk i h1]; exact h2⟩, fun ⟨i, h1, h2⟩ => ⟨rfl, i, h1, by rw [hk i h1]; exact h2⟩⟩
          by_cases c3 : ∃ i, i < (txP (bkM (B b)) t).1 ∧ ukR Gp B (bkM (B b)) t i (X.getD (fiR B (bkM (B b)) t X i - 1) 0) = false
          · rw [if_pos (hex.mpr c3), if_pos c3]; exact ⟨rfl, fun _ => hc⟩
          · rw [if_neg (fun h => c3 (hex.mp h)), if_neg c3]
            have h1 := cRel.rad (b := b) (t := t) (by omega) (txP (bkM (B b)) t).2.2.1 0 (by omega) (hc.tk hd (by omega) ht hf).2
            rw [h1.len]
            by_cases c4 : 400 < (radR B b t (txP (bkM (B b)) t).2.2.1 0 (tkN (mkF (fun i => fiR B (bkM (B b)) t X i - 1) (txP (bkM (B b)) t).1) X X.length)).length
            · rw [if_pos c4, if_pos c4]; exact ⟨rfl, fun _ => hc⟩
            · rw [if_neg c4, if_neg c4]
              exact rc_rel hV hb hd u (t + 1) _ _ _ (by omega) h1
/-- what was right with its scripts is right without -/
theorem rcF_mono {Gp : Pt} {B : Nat → Bk} {M : List Nat} {b h : Nat} : ∀ (u t : Nat) (R : List Nat) (left : Nat), (rcF Gp false B M b h u t R left).1 = 0 → rcF Gp true B M b h u t R left = rcF Gp false B M b h u t R left
  | 0, t, R, left, _ => by
    unfold rcF
    rfl
  | u + 1, t, R, left, h0 => by
    unfold rcF at h0 ⊢
    by_cases c0 : t = 0
    · rw [if_pos c0] at h0 ⊢
      rw [if_pos c0]
      by_cases c1 : 400 < (radR B b 0 (txP M 0).2.2.1 0 R).length
      · rw [if_pos c1, if_pos c1]
      · rw [if_neg c1] at h0 ⊢
        rw [if_neg c1]
        exact rcF_mono u 1 _ left h0
    · rw [if_neg c0] at h0 ⊢
      rw [if_neg c0]
      by_cases c1 : (fcR B M t h R (txP M t).1 0 0).1 ≠ 0
      · rw [if_pos c1, if_pos c1]
      · rw [if_neg c1] at h0 ⊢
        rw [if_neg c1]
        by_cases c2 : (fcR B M t h R (txP M t).1 0 0).2 < vaM M t
        · rw [if_pos c2, if_pos c2]
        · rw [if_neg c2] at h0 ⊢
          rw [if_neg c2, if_neg (fun h => by cases h.1)]
          by_cases c3 : false = false ∧ ∃ i, i < (txP M t).1 ∧ ukR Gp B M t i (R.getD (fiR B M t R i - 1) 0) = false
          · rw [if_pos c3] at h0
            exact absurd (show (14 : Nat) = 0 from h0) (by decide)
          · rw [if_neg c3] at h0 ⊢
            by_cases c4 : 400 < (radR B b t (txP M t).2.2.1 0 (tkR B M t (txP M t).1 0 R)).length
            · rw [if_pos c4, if_pos c4]
            · rw [if_neg c4] at h0 ⊢
              rw [if_neg c4]
              exact rcF_mono u (t + 1) _ _ h0

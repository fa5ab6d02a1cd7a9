/-! THE CLASS as a whole, between calls -/
/-- what a cell of the class may hold: no row of the reference's stacks, no object of the reference -/
def clE (e : ks_E) : Bool := match e with
  | .inl (t, n, _) => !(t == 0 && n == 520)
  | .inr (k, _) => decide (k < 15)
theorem clE_52 {e : ks_E} (h : clE e = true) : ∀ g, e ≠ kB 520 g := fun g he => by
  rw [he] at h
  exact absurd h (by show ¬ ((!((0 : Nat) == 0 && (520 : Nat) == 520)) = true); decide)
def cqN (n : Nat) (B : Nat → Bk) (sl : Option Nat) : Prop := (∀ i, i < n → (284 ≤ bkN (B i) ∧ (bkN (B i) + 4 < 290 ∨ 565 ≤ bkN (B i))) ∧ ∀ c, bkC (B i) = some c → 284 ≤ c.1 ∧ (c.1 < 290 ∨ 565 ≤ c.1)) ∧ ∀ b, sl = some b → 284 ≤ b ∧ (b + 4 < 290 ∨ 565 ≤ b)
def cqS (S : ks_S) (n best : Nat) (B : Nat → Bk) (dc dp : Nat) (dt : Int64) (rs : Nat) (Ds : Nat → dTx) (T : List Nat) : Prop :=
  (S.2.2 0 = some (jdO dc dp dt (nI rs)) ∧ ks_stOK S ∧ bfS S 1 2 1600 (some T) ∧ (∃ o, bfS S 3 4 1600 o) ∧ ∃ o, bfS S 5 6 8000 o) ∧ (mcZ S ∧ tvR S ∧ ∃ N, tg_ok S N) ∧ ((∃ f, S.2.2 43 = some (kN 60 f)) ∧ (∃ f, S.2.2 48 = some (kL 11 f)) ∧ (∃ g, kO g ∧ S.2.2 49 = some (kB 32 g)) ∧ (∃ f, S.2.2 50 = some (kN 580 f)) ∧ (∃ f, S.2.2 51 = some (kN 40 f)) ∧ (∃ g, kO g ∧ S.2.2 53 = some (kB 384 g)) ∧ (∃ g, kO g ∧ S.2.2 54 = some (kB 32 g)) ∧ S.2.2 55 = some (kB 32 (fun _ => 0))) ∧ dfS S Ds ∧ (∃ cc tk, chX S n best cc tk B) ∧ (∃ sl, chF S n B sl ∧ cqN n B sl) ∧ chT S n B ∧ bkN (B 0) = 284 ∧ (∃ L, bkC (B 0) = some (289, L)) ∧ 0 < n
set_option maxRecDepth 100000 in
set_option maxHeartbeats 1600000 in
theorem cq_low {S : ks_S} {n best : Nat} {B : Nat → Bk} {dc dp : Nat} {dt : Int64} {rs : Nat} {Ds : Nat → dTx} {T : List Nat} (h : cqS S n best B dc dp dt rs Ds T) : ∀ a, a < 290 → ∃ e, S.2.2 a = some e ∧ clE e = true := fun a ha => by
  obtain ⟨⟨c0, -, ⟨_, _, _, _, c2, c1, _⟩, ⟨_, _, _, _, _, c4, c3, _⟩, ⟨_, _, _, _, _, c6, c5, _⟩⟩, ⟨⟨⟨⟨_, _, _, ⟨⟨c14, ⟨c15, c16, _⟩, _⟩, ⟨⟨c17, c18, _⟩, _⟩, _, _, c19⟩, _⟩, ⟨c7, ⟨_, c8⟩, ⟨_, c9⟩, ⟨_, c10⟩, ⟨_, _, c11⟩, ⟨_, _, c12⟩, _, _, c13⟩, ⟨_, _, c28⟩, ⟨_, _, _, _, _, c40, c39, _⟩, ⟨_, _, _, _, _, c38, c37, _⟩⟩, ⟨_, _, _, _, _, _, _, _, _, _, _, ⟨c29, c30, c31, c32, c33, c34, c35, _⟩, _⟩, ⟨_, c36⟩, _, _, _, _, _, _, _, _, _, _, _, _, _, c27⟩, ⟨_, _, _, _, _, _, _, _, _, _, _, c20, c21, c22, c23, c24, c25, c26⟩, ⟨_, c44, ⟨_, _, c45, _⟩, ⟨_, _, c46⟩, _, _, c47⟩⟩, ⟨⟨_, c43⟩, ⟨_, c48⟩, ⟨_, _, c49⟩, ⟨_, c50⟩, ⟨_, c51⟩, ⟨_, _, c53⟩, ⟨_, _, c54⟩, c55⟩, ⟨c52, hdx⟩, ⟨_, _, c41, ⟨_, c42, _⟩, hbk, _⟩, -, -, h284, ⟨L, h289⟩, hn⟩ := h
  by_cases c : a < 56
  · have hk : a = 0 ∨ a = 1 ∨ a = 2 ∨ a = 3 ∨ a = 4 ∨ a = 5 ∨ a = 6 ∨ a = 7 ∨ a = 8 ∨ a = 9 ∨ a = 10 ∨ a = 11 ∨ a = 12 ∨ a = 13 ∨ a = 14 ∨ a = 15 ∨ a = 16 ∨ a = 17 ∨ a = 18 ∨ a = 19 ∨ a = 20 ∨ a = 21 ∨ a = 22 ∨ a = 23 ∨ a = 24 ∨ a = 25 ∨ a = 26 ∨ a = 27 ∨ a = 28 ∨ a = 29 ∨ a = 30 ∨ a = 31 ∨ a = 32 ∨ a = 33 ∨ a = 34 ∨ a = 35 ∨ a = 36 ∨ a = 37 ∨ a = 38 ∨ a = 39 ∨ a = 40 ∨ a = 41 ∨ a = 42 ∨ a = 43 ∨ a = 44 ∨ a = 45 ∨ a = 46 ∨ a = 47 ∨ a = 48 ∨ a = 49 ∨ a = 50 ∨ a = 51 ∨ a = 52 ∨ a = 53 ∨ a = 54 ∨ a = 55 := by omega
    rcases hk with rfl | rfl | rfl | rfl | rfl | rfl | rfl | rfl | rfl | rfl | rfl | rfl | rfl | rfl | rfl | rfl | rfl | rfl | rfl | rfl | rfl | rfl | rfl | rfl | rfl | rfl | rfl | rfl | rfl | rfl | rfl | rfl | rfl | rfl | rfl | rfl | rfl | rfl | rfl | rfl | rfl | rfl | rfl | rfl | rfl | rfl | rfl | rfl | rfl | rfl | rfl | rfl | rfl | rfl | rfl | rfl
    · exact ⟨_, c0, rfl⟩
    · exact ⟨_, c1, rfl⟩
    · exact ⟨_, c2, rfl⟩
    · exact ⟨_, c3, rfl⟩
    · exact ⟨_, c4, rfl⟩
    · exact ⟨_, c5, rfl⟩
    · exact ⟨_, c6, rfl⟩
    · exact ⟨_, c7, rfl⟩
    · exact ⟨_, c8, rfl⟩
    · exact ⟨_, c9, rfl⟩
    · exact ⟨_, c10, rfl⟩
    · exact ⟨_, c11, rfl⟩
    · exact ⟨_, c12, rfl⟩
    · exact ⟨_, c13, rfl⟩
    · exact ⟨_, c14, rfl⟩
    · exact ⟨_, c15, rfl⟩
    · exact ⟨_, c16, rfl⟩
    · exact ⟨_, c17, rfl⟩
    · exact ⟨_, c18, rfl⟩
    · exact ⟨_, c19, rfl⟩
    · exact ⟨_, c20, rfl⟩
    · exact ⟨_, c21, rfl⟩
    · exact ⟨_, c22, rfl⟩
    · exact ⟨_, c23, rfl⟩
    · exact ⟨_, c24, rfl⟩
    · exact ⟨_, c25, rfl⟩
    · exact ⟨_, c26, rfl⟩
    · exact ⟨_, c27, rfl⟩
    · exact ⟨_, c28, rfl⟩
    · exact ⟨_, c29, rfl⟩
    · exact ⟨_, c30, rfl⟩
    · exact ⟨_, c31, rfl⟩
    · exact ⟨_, c32, rfl⟩
    · exact ⟨_, c33, rfl⟩
    · exact ⟨_, c34, rfl⟩
    · exact ⟨_, c35, rfl⟩
    · exact ⟨_, c36, rfl⟩
    · exact ⟨_, c37, rfl⟩
    · exact ⟨_, c38, rfl⟩
    · exact ⟨_, c39, rfl⟩
    · exact ⟨_, c40, rfl⟩
    · exact ⟨_, c41, rfl⟩
    · exact ⟨_, c42, rfl⟩
    · exact ⟨_, c43, rfl⟩
    · exact ⟨_, c44, rfl⟩
    · exact ⟨_, c45, rfl⟩
    · exact ⟨_, c46, rfl⟩
    · exact ⟨_, c47, rfl⟩
    · exact ⟨_, c48, rfl⟩
    · exact ⟨_, c49, rfl⟩
    · exact ⟨_, c50, rfl⟩
    · exact ⟨_, c51, rfl⟩
    · exact ⟨_, c52, rfl⟩
    · exact ⟨_, c53, rfl⟩
    · exact ⟨_, c54, rfl⟩
    · exact ⟨_, c55, rfl⟩
  · by_cases c2 : a < 284
    · obtain ⟨k, m, sz, id, ix, sq, vl, sc, ⟨a1, a2, a3, a4, a5, a6, a7, a8, _⟩, _⟩ := hdx ((a - 56) / 19) (by omega)
      obtain ⟨b, eb⟩ : ∃ b, b = 56 + 19 * ((a - 56) / 19) := ⟨_, rfl⟩
      rw [← eb] at a1 a2 a3 a4 a5 a6 a7 a8
      have hk : a = b ∨ a = b + 1 ∨ a = b + 2 ∨ a = b + 3 ∨ a = b + 4 ∨ a = b + 5 ∨ a = b + 6 ∨ (b + 7 ≤ a ∧ a < b + 19) := by omega
      clear eb
      rcases hk with rfl | rfl | rfl | rfl | rfl | rfl | rfl | hk
      · exact ⟨_, a1, rfl⟩
      · exact ⟨_, a2, rfl⟩
      · exact ⟨_, a3, rfl⟩
      · exact ⟨_, a4, rfl⟩
      · exact ⟨_, a5, rfl⟩
      · exact ⟨_, a6, rfl⟩
      · exact ⟨_, a7, rfl⟩
      · have e := a8 (a - b - 7) (by omega)
        rw [show b + 7 + (a - b - 7) = a by omega] at e
        exact ⟨_, e, rfl⟩
    · obtain ⟨g1, f2, g3, g4, ⟨b1, b2, b3, b4, b5, _⟩, _, _, _, _, _, _, hc⟩ := hbk 0 hn
      rw [h284] at b1 b2 b3 b4 b5
      have b6 := (hc _ h289).1
      have hk : a = 284 ∨ a = 285 ∨ a = 286 ∨ a = 287 ∨ a = 288 ∨ a = 289 := by omega
      rcases hk with rfl | rfl | rfl | rfl | rfl | rfl
      · exact ⟨_, b1, rfl⟩
      · exact ⟨_, b2, rfl⟩
      · exact ⟨_, b3, rfl⟩
      · exact ⟨_, b4, rfl⟩
      · exact ⟨_, b5, rfl⟩
      · exact ⟨_, b6, rfl⟩
theorem mcZ_ag {S S1 : ks_S} (h : mcZ S) (hg : ∀ a, a < 56 → S1.2.2 a = S.2.2 a) : mcZ S1 := by
  obtain ⟨⟨h1, h2, ⟨g, h3, h4⟩, ⟨o1, h5⟩, o2, h6⟩, ⟨xs, ys, u, h7⟩, ⟨dn, h8⟩, vw, ji, vc, j1, j2, j3, j4, j5, j6, i1, i2, i3, i4, h9⟩ := h
  exact ⟨⟨h1.ag (fun a h1 h2 => hg a (by omega)), hs_ag h2 (fun a h1 h2 => hg a (by omega)), ⟨g, h3, (hg _ (by decide)).trans h4⟩, ⟨o1, h5.ag (hg _ (by decide)) (hg _ (by decide))⟩, o2, h6.ag (hg _ (by decide)) (hg _ (by decide))⟩, ⟨xs, ys, u, h7.ag (fun a h1 h2 => hg a (by omega))⟩, ⟨dn, (hg _ (by decide)).trans h8⟩, vw, ji, vc, j1, j2, j3, j4, j5, j6, i1, i2, i3, i4, (hg _ (by decide)).trans h9⟩
/-- no row of longs -/
def hiE (e : ks_E) : Bool := match e with
  | .inl (t, _) => !(t == 2)
  | .inr _ => true
/-- the cells of the class stay -/
def frC (S S1 : ks_S) : Prop := ∀ a e, S.2.2 a = some e → a < 290 ∨ 565 ≤ a → clE e = true → a < 290 ∨ hiE e = true → a < S.1 ∨ ks_B ≤ a → S1.2.2 a = some e
theorem bkX.fc {S S1 : ks_S} {b : Nat} {len cnt par hei : Int32} {wk : Int64} {bad : Bool} {cr : Value} {g1 f2 g3 g4 : Nat → Nat} (h : bkX S b len cnt par hei wk bad cr g1 f2 g3 g4) (f : frC S S1) (hb : b + 4 < 290 ∨ 565 ≤ b) (hs : b + 5 ≤ S.1) : bkX S1 b len cnt par hei wk bad cr g1 f2 g3 g4 := by
  obtain ⟨b1, b2, b3, b4, b5, b6⟩ := h
  exact ⟨f _ _ b1 (by omega) rfl (Or.inr rfl) (Or.inl (by omega)), f _ _ b2 (by omega) rfl (Or.inr rfl) (Or.inl (by omega)), f _ _ b3 (by omega) rfl (Or.inr rfl) (Or.inl (by omega)), f _ _ b4 (by omega) rfl (Or.inr rfl) (Or.inl (by omega)), f _ _ b5 (by omega) rfl (Or.inr rfl) (Or.inl (by omega)), b6⟩
theorem bkK.fc {S S1 : ks_S} {b : Bk} (h : bkK S b) (f : frC S S1) (hb : bkN b + 4 < 290 ∨ 565 ≤ bkN b) (hc : ∀ c, bkC b = some c → c.1 < 290 ∨ 565 ≤ c.1) (hs : bkN b + 5 ≤ S.1) (hs2 : ∀ c, bkC b = some c → c.1 < S.1) : bkK S1 b := by
  obtain ⟨g1, f2, g3, g4, h1, h2, h3, h4, h5, h6, h7, h8⟩ := h
  exact ⟨g1, f2, g3, g4, h1.fc f hb hs, h2, h3, h4, h5, h6, h7, fun c ec => ⟨f _ _ (h8 c ec).1 (hc c ec) rfl (Or.inr rfl) (Or.inl (hs2 c ec)), (h8 c ec).2⟩⟩
theorem cqS.fr {S : ks_S} {n best : Nat} {B : Nat → Bk} {dc dp : Nat} {dt : Int64} {rs : Nat} {Ds : Nat → dTx} {T : List Nat} {S1 : ks_S} (h : cqS S n best B dc dp dt rs Ds T) (f : frC S S1) (hz : S.1 ≤ S1.1 ∧ S1.1 < ks_B) : cqS S1 n best B dc dp dt rs Ds T := by
  have h290 : 290 ≤ S.1 := by
    obtain ⟨-, -, -, -, -, -, ⟨-, -, t3⟩, -, ⟨L, u2⟩, u3⟩ := id h
    exact (t3 0 u3).2 _ u2
  have hlow : ∀ a, a < 290 → S1.2.2 a = S.2.2 a := fun a ha => by
    obtain ⟨e, e1, e2⟩ := cq_low h a ha
    rw [e1]
    exact f a e e1 (Or.inl ha) e2 (Or.inl ha) (Or.inl (Nat.lt_of_lt_of_le ha h290))
  obtain ⟨⟨c0, cst, c1, ⟨o3, c3⟩, o5, c5⟩, ⟨cz, cv, N, ct⟩, ⟨⟨f43, c43⟩, ⟨f48, c48⟩, ⟨g49, k49, c49⟩, ⟨f50, c50⟩, ⟨f51, c51⟩, ⟨g53, k53, c53⟩, ⟨g54, k54, c54⟩, c55⟩, ⟨d1, d2⟩, ⟨cc, tk, x1, ⟨bf, x2, x3⟩, x4, x5⟩, ⟨sl, ⟨⟨bf2, y1, y2, y3⟩, y4⟩, N1, N2⟩, ⟨t1, t2, t3⟩, u1, u2, u3⟩ := h
  refine ⟨⟨(hlow _ (by decide)).trans c0, fun i q hq => f _ _ (cst i q hq) (Or.inr (by unfold ks_B; omega)) rfl (Or.inr rfl) (Or.inr (Nat.le_add_right _ _)), c1.ag (hlow _ (by decide)) (hlow _ (by decide)), ⟨o3, c3.ag (hlow _ (by decide)) (hlow _ (by decide))⟩, o5, c5.ag (hlow _ (by decide)) (hlow _ (by decide))⟩, ⟨mcZ_ag cz (fun a ha => hlow a (by omega)), cv.ag (fun a h1 h2 => hlow a (by omega)), N, ct.ag (fun a h1 h2 => hlow a (by omega))⟩, ⟨⟨f43, (hlow _ (by decide)).trans c43⟩, ⟨f48, (hlow _ (by decide)).trans c48⟩, ⟨g49, k49, (hlow _ (by decide)).trans c49⟩, ⟨f50, (hlow _ (by decide)).trans c50⟩, ⟨f51, (hlow _ (by decide)).trans c51⟩, ⟨g53, k53, (hlow _ (by decide)).trans c53⟩, ⟨g54, k54, (hlow _ (by decide)).trans c54⟩, (hlow _ (by decide)).trans c55⟩, ⟨(hlow _ (by decide)).trans d1, fun i hi => dx_ag (d2 i hi) (fun a h1 h2 => hlow a (by omega))⟩, ⟨cc, tk, (hlow _ (by decide)).trans x1, ⟨bf, (hlow _ (by decide)).trans x2, x3⟩, fun i hi => (x4 i hi).fc f (N1 i hi).1.2 (fun c hc => ((N1 i hi).2 c hc).2) (t3 i hi).1 (t3 i hi).2, x5⟩, ⟨sl, ⟨⟨bf2, (hlow _ (by decide)).trans y1, y2, y3⟩, fun b hb => ?_⟩, N1, N2⟩, ⟨Nat.le_trans t1 hz.1, hz.2, fun i hi => ⟨Nat.le_trans (t3 i hi).1 hz.1, fun c hc => Nat.lt_of_lt_of_le ((t3 i hi).2 c hc) hz.1⟩⟩, u1, u2, u3⟩
  obtain ⟨z1, z2, len, cnt, par, hei, g1, f2, g3, g4, z3⟩ := y4 b hb
  exact ⟨Nat.le_trans z1 hz.1, z2, len, cnt, par, hei, g1, f2, g3, g4, z3.fc f (N2 b hb).2 z1⟩

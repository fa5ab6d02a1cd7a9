/-! COINS of both sides: the same under two names -/
def blV (n : Nat) (B : Nat → Bk) : Prop := ∀ i, i < n → (bkM (B i)).length ≤ 1600 ∧ blk_ (mg (bkM (B i))) (bkM (B i)).length = true ∧ kO (mg (bkM (B i)))
theorem chX.bl {S : ks_S} {n best : Nat} {cc : Int32} {tk : Int64} {B : Nat → Bk} (h : chX S n best cc tk B) : blV n B := fun i hi => by
  obtain ⟨g1, f2, g3, g4, h1, h2, h3, h4, -⟩ := h.2.2.1 i hi
  obtain ⟨-, -, -, -, -, k1, -⟩ := h1
  refine ⟨h2, h4, fun j => ?_⟩
  by_cases c : j < (bkM (B i)).length
  · rw [← h3 j c]; exact k1 j
  · unfold mg
    rw [show (bkM (B i)).getD j 0 = 0 by simp [List.getD, Nat.le_of_not_lt c]]
    decide
/-- a coin's name in the reference -/
def fiC (c : Nat) : Nat := (c / 2 ^ 23 * 12 + c / 2 ^ 19 % 16) * 256 + c / 2 ^ 11 % 256
theorem cnG_f {n : Nat} {B : Nat → Bk} {c : Nat} (hV : blV n B) (hn : n ≤ 60) (h : cnG n B c) : ∃ b t o, (b < n ∧ t < mg (bkM (B b)) 80 ∧ o < (txP (bkM (B b)) t).2.2.1 ∧ t < 12 ∧ o < 180) ∧ c = cnI (bkM (B b)) b t o ∧ (c / 2 ^ 23 = b ∧ c / 2 ^ 19 % 16 = t ∧ c / 2 ^ 11 % 256 = o ∧ c % 2048 = oA (mg (bkM (B b))) (bkM (B b)).length (txP (bkM (B b)) t).2.2.2.1 o) ∧ fiC c = mkN b t o ∧ fiC c / 3072 = b ∧ fiC c / 256 % 12 = t ∧ fiC c % 256 = o := by
  obtain ⟨b, t, o, hb, ht, ho, rfl⟩ := h
  obtain ⟨h2, h4, -⟩ := hV b hb
  have b9 := blk_b h4
  have q := bk_tx h4 ht
  have q2 := tx_out (bk_tx5 h4 ht) o ho
  have q3 := tx_bd (bk_tx5 h4 ht)
  have t12 : t < 12 := by omega
  have o180 : o < 180 := by omega
  have d := @cnI_d (bkM (B b)) b t o (by omega) t12 o180 (by omega)
  refine ⟨b, t, o, ⟨hb, ht, ho, t12, o180⟩, rfl, d.2, ?_⟩
  have e : fiC (cnI (bkM (B b)) b t o) = mkN b t o := by
    unfold fiC mkN
    rw [d.2.1, d.2.2.1, d.2.2.2.1]
  rw [e]
  unfold mkN
  refine ⟨rfl, ?_, ?_, ?_⟩ <;> omega
/-- what names a coin -/
def keR (B : Nat → Bk) (x : Nat) : Nat × List Nat := (x % 256, bytL (idB (bkM (B (x / 3072))) (x / 256 % 12)) 0 32)
theorem byt32 {f g : Nat → Nat} : sm32 f 0 g 0 = true ↔ bytL f 0 32 = bytL g 0 32 := by
  rw [sm32_iff]
  constructor
  · intro h
    exact bytL_congr (fun j hj => h j hj)
  · intro h j hj
    have e := congrArg (fun l => l.getD j 0) h
    change (bytL f 0 32).getD j 0 = (bytL g 0 32).getD j 0 at e
    rw [bytL_at _ _ _ hj, bytL_at _ _ _ hj] at e
    exact e
theorem rmIs_k {B : Nat → Bk} {ix : Nat} {id : Nat → Nat} {x : Nat} : rmIs B ix id x = true ↔ keR B x = (ix, bytL id 0 32) := by
  unfold rmIs keR
  rw [Bool.and_eq_true, byt32, decide_eq_true_eq]
  constructor
  · intro h; rw [h.1, h.2]
  · intro h; exact ⟨congrArg Prod.fst h, congrArg Prod.snd h⟩
theorem cnIs_k {n : Nat} {B : Nat → Bk} {c xn : Nat} {id : Nat → Nat} (hV : blV n B) (hn : n ≤ 60) (h : cnG n B c) (hx : xn < 2 ^ 32) : cnIs B (nI xn) id c = rmIs B xn id (fiC c) := by
  obtain ⟨b, t, o, ⟨hb, ht, ho, t12, o180⟩, hc, ⟨e1, e2, e3, e4⟩, f0, f1, f2, f3⟩ := cnG_f hV hn h
  unfold cnIs rmIs
  rw [e1, e2, e3, f1, f2, f3]
  refine congrArg (fun z => z && _) ?_
  exact decide_eq_decide.mpr (nI_eq32 (by omega) hx)
theorem getD_mp {f : Nat → Nat} {L : List Nat} {i : Nat} (h : i < L.length) : (L.map f).getD i 0 = f (L.getD i 0) := by
  simp [List.getD, h]
theorem plL_k {n : Nat} {B : Nat → Bk} {xn : Nat} {id : Nat → Nat} {L : List Nat} (hV : blV n B) (hn : n ≤ 60) (h : ∀ x ∈ L, cnG n B x) (hx : xn < 2 ^ 32) : plL B (nI xn) id L = plR B xn id (L.map fiC) := by
  unfold plL plR
  rw [List.length_map]
  refine plD_congr (fun j _ hj => ?_)
  rw [getD_mp (by omega), cnIs_k hV hn (h _ (getD_mem (by omega))) hx]
theorem cnV_k {n : Nat} {B : Nat → Bk} {c : Nat} (hV : blV n B) (hn : n ≤ 60) (h : cnG n B c) : cnV B c = rmV B (fiC c) := by
  obtain ⟨b, t, o, ⟨hb, ht, ho, t12, o180⟩, hc, ⟨e1, e2, e3, e4⟩, f0, f1, f2, f3⟩ := cnG_f hV hn h
  unfold cnV rmV
  rw [e1, e4, f1, f2, f3]
theorem adC_k {n : Nat} {B : Nat → Bk} {b t : Nat} (hV : blV n B) (hn : n ≤ 60) (hb : b < n) (ht : t < mg (bkM (B b)) 80) : ∀ (u o : Nat) (L : List Nat), o + u = (txP (bkM (B b)) t).2.2.1 → (∀ x ∈ L, cnG n B x) → (adC B b t u o L).map fiC = radR B b t u o (L.map fiC)
  | 0, o, L, _, h => rfl
  | u + 1, o, L, hou, h => by
    have hg : cnG n B (cnI (bkM (B b)) b t o) := ⟨b, t, o, hb, ht, by omega, rfl⟩
    obtain ⟨b1, t1, o1, ⟨hb1, ht1, ho1, t12, o180⟩, hc, ⟨e1, e2, e3, e4⟩, f0, f1, f2, f3⟩ := cnG_f hV hn hg
    have hq := tx_bd (bk_tx5 (hV b hb).2.1 ht)
    have e : fiC (cnI (bkM (B b)) b t o) = mkN b t o := by
      have h4 := (hV b hb).2.1
      have b9 := blk_b h4
      have q := bk_tx h4 ht
      have q2 := tx_out (bk_tx5 h4 ht) o (by omega)
      have d := @cnI_d (bkM (B b)) b t o (by omega) (by omega) (by omega) (by have := (hV b hb).1; omega)
      unfold fiC mkN
      rw [d.2.1, d.2.2.1, d.2.2.2.1]
    show (adC B b t u (o + 1) (if plL B (nI o) (fun j => idB (bkM (B b)) t j) L = 0 then L ++ [cnI (bkM (B b)) b t o] else L.set (plL B (nI o) (fun j => idB (bkM (B b)) t j) L - 1) (cnI (bkM (B b)) b t o))).map fiC = radR B b t u (o + 1) (if plR B o (fun j => idB (bkM (B b)) t j) (L.map fiC) = 0 then L.map fiC ++ [mkN b t o] else (L.map fiC).set (plR B o (fun j => idB (bkM (B b)) t j) (L.map fiC) - 1) (mkN b t o))
    rw [plL_k hV hn h (by omega)]
    by_cases c : plR B o (fun j => idB (bkM (B b)) t j) (L.map fiC) = 0
    · rw [if_pos c, if_pos c, adC_k hV hn hb ht u (o + 1) _ (by omega) (fun x hx => ?_), List.map_append, List.map_singleton, e]
      rcases List.mem_append.mp hx with hx | hx
      · exact h x hx
      · rw [List.mem_singleton.mp hx]; exact hg
    · rw [if_neg c, if_neg c, adC_k hV hn hb ht u (o + 1) _ (by omega) (fun x hx => ?_), List.map_set, e]
      rcases List.mem_or_eq_of_mem_set hx with hx | hx
      · exact h x hx
      · rw [hx]; exact hg
theorem plD_lt {f : Nat → Bool} {c : Nat} (h : plD f c 0 ≠ 0) : plD f c 0 - 1 < c := by
  have := @plD_b f c 0
  omega
theorem fiP_k {n : Nat} {B : Nat → Bk} {M : List Nat} {t i : Nat} {L : List Nat} (hV : blV n B) (hn : n ≤ 60) (hM : kO (mg M)) (h : ∀ x ∈ L, cnG n B x) : fiP B M t L i = fiR B M t (L.map fiC) i := by
  unfold fiP fiR
  exact plL_k hV hn h (by have := ks_num_lt hM 4 (inA M t i + 32); omega)
theorem fiP_in {B : Nat → Bk} {M : List Nat} {t i : Nat} {L : List Nat} (h : fiP B M t L i ≠ 0) : fiP B M t L i - 1 < L.length := plD_lt h
theorem fcF_k {n : Nat} {B : Nat → Bk} {M : List Nat} {t h9 : Nat} {L : List Nat} (hV : blV n B) (hn : n ≤ 60) (hM : kO (mg M)) (h : ∀ x ∈ L, cnG n B x) : ∀ (u i s : Nat), fcF B M t h9 L u i s = fcR B M t h9 (L.map fiC) u i s
  | 0, i, s => rfl
  | u + 1, i, s => by
    unfold fcF fcR
    rw [← fiP_k hV hn hM h]
    by_cases c : fiP B M t L i = 0
    · rw [if_pos c, if_pos c]
    · rw [if_neg c, if_neg c, getD_mp (fiP_in c)]
      have hg := h _ (getD_mem (fiP_in c))
      obtain ⟨b1, t1, o1, ⟨hb1, ht1, ho1, t12, o180⟩, hc, ⟨e1, e2, e3, e4⟩, f0, f1, f2, f3⟩ := cnG_f hV hn hg
      rw [← cnV_k hV hn hg, fcF_k hV hn hM h u, e1, e2, f1, f2]
theorem tkN_mp {mk : Nat → Bool} {f : Nat → Nat} {L : List Nat} : ∀ {i : Nat}, i ≤ L.length → (tkN mk L i).map f = tkN mk (L.map f) i
  | 0, _ => rfl
  | i + 1, h => by
    unfold tkN
    by_cases c : mk i = true
    · rw [if_pos c, if_pos c, tkN_mp (by omega)]
    · rw [if_neg c, if_neg c, List.map_append, tkN_mp (by omega), List.map_singleton, getD_mp (by omega)]

/-! ROWS WITH PLACES AS NATURAL NUMBERS -/
theorem ks_ne {S : ks_S} {a b : Nat} {x y : ks_E} (ha : S.2.2 a = some x) (hb : S.2.2 b = some y) (h : x ≠ y) : a ≠ b := fun e => h (by subst e; exact Option.some.inj (ha.symm.trans hb))
theorem ks_by_b {c : Nat} (h : c < 256) : ks_by (sb_b c) = c := by
  have h1 := (sb_byte c h).1
  rw [ks_by_and] at h1
  exact (nI_eq (Nat.lt_trans (ks_by_lt _) (by decide)) (Nat.lt_trans h (by decide))).mp h1
theorem ks_by_i8 (x : Int32) : ks_by x.toInt8.toInt32 = ks_by x := by
  rw [← kb_low, ks_by_b (ks_by_lt _)]
section KsN
variable {l : Launch} {G : ks_G} {M : ks_M} {d pc pc' : Nat} {lv : List (Nat × Value)} {st : List Value} {S : ks_S} {P : Option Value → ks_S → Prop} {a n i : Nat} {ix : Int32}
theorem ks_baldB {g : Nat → Nat} (hS : S.2.2 a = some (kB n g)) (hix : ix = nI i) (hi : i < n) (hn : n < 2 ^ 31) (hd : decode M.2.1 pc = .ok (.baload, 1)) (hp : pc + 1 = pc') (k : ks_X l G M d pc' lv (.int (kb g i) :: st) S P) : ks_X l G M d pc lv (.int ix :: .ref a :: st) S P := by
  subst hix
  exact ks_bald hS (vp_in_nI hi hn) hd hp (by rw [nI_clamp (by omega)]; exact k)
theorem ks_bastB {g : Nat → Nat} {x : Int32} {c : Nat} (hS : S.2.2 a = some (kB n g)) (hix : ix = nI i) (hi : i < n) (hn : n < 2 ^ 31) (hx : ks_by x = c) (hd : decode M.2.1 pc = .ok (.bastore, 1)) (hp : pc + 1 = pc') (k : ks_X l G M d pc' lv st (ks_set S a (kB n (va_up g i c))) P) : ks_X l G M d pc lv (.int x :: .int ix :: .ref a :: st) S P := by
  subst hix
  subst hx
  exact ks_bast hS (vp_in_nI hi hn) hd hp (by rw [nI_clamp (by omega), kb_upd]; exact k)
theorem ks_ialdN {f : Nat → Int32} (hS : S.2.2 a = some (.inl (1, n, .inl f))) (hix : ix = nI i) (hi : i < n) (hn : n < 2 ^ 31) (hd : decode M.2.1 pc = .ok (.iaload, 1)) (hp : pc + 1 = pc') (k : ks_X l G M d pc' lv (.int (f i) :: st) S P) : ks_X l G M d pc lv (.int ix :: .ref a :: st) S P := by
  subst hix
  exact ks_iald hS (vp_in_nI hi hn) hd hp (by rw [nI_clamp (by omega)]; exact k)
theorem ks_iastN {f : Nat → Int32} {x : Int32} (hB : a < ks_B) (hS : S.2.2 a = some (.inl (1, n, .inl f))) (hix : ix = nI i) (hi : i < n) (hn : n < 2 ^ 31) (hd : decode M.2.1 pc = .ok (.iastore, 1)) (hp : pc + 1 = pc') (k : ks_X l G M d pc' lv st (ks_set S a (.inl (1, n, .inl (va_up f i x)))) P) : ks_X l G M d pc lv (.int x :: .int ix :: .ref a :: st) S P := by
  subst hix
  exact ks_iast hB hS (vp_in_nI hi hn) hd hp (by rw [nI_clamp (by omega)]; exact k)
theorem ks_laldN {f : Nat → Int64} (hS : S.2.2 a = some (.inl (2, n, .inr (.inl f)))) (hix : ix = nI i) (hi : i < n) (hn : n < 2 ^ 31) (hd : decode M.2.1 pc = .ok (.laload, 1)) (hp : pc + 1 = pc') (k : ks_X l G M d pc' lv (.long (f i) :: st) S P) : ks_X l G M d pc lv (.int ix :: .ref a :: st) S P := by
  subst hix
  exact ks_lald hS (vp_in_nI hi hn) hd hp (by rw [nI_clamp (by omega)]; exact k)
theorem ks_lastN {f : Nat → Int64} {x : Int64} (hS : S.2.2 a = some (.inl (2, n, .inr (.inl f)))) (hix : ix = nI i) (hi : i < n) (hn : n < 2 ^ 31) (hd : decode M.2.1 pc = .ok (.lastore, 1)) (hp : pc + 1 = pc') (k : ks_X l G M d pc' lv st (ks_set S a (.inl (2, n, .inr (.inl (va_up f i x))))) P) : ks_X l G M d pc lv (.long x :: .int ix :: .ref a :: st) S P := by
  subst hix
  exact ks_last hS (vp_in_nI hi hn) hd hp (by rw [nI_clamp (by omega)]; exact k)
theorem ks_aaldN {t : Nat} {g : Nat → Option Nat} (ht : t = 4 ∨ t = 5 ∨ t = 6 ∨ t = 7) (hS : S.2.2 a = some (.inl (t, n, .inr (.inr (.inr (.inr g)))))) (hix : ix = nI i) (hi : i < n) (hn : n < 2 ^ 31) {b : Nat} (hg : g i = some b) (hd : decode M.2.1 pc = .ok (.aaload, 1)) (hp : pc + 1 = pc') (k : ks_X l G M d pc' lv (.ref b :: st) S P) : ks_X l G M d pc lv (.int ix :: .ref a :: st) S P := by
  subst hix
  exact ks_aald ht hS (vp_in_nI hi hn) hd hp (by rw [nI_clamp (by omega), hg]; exact k)
/-- the length of a row that is no static one -/
theorem ks_alenT {t : Nat} {A : vp_A} (ht : t < 8) (ht1 : t ≠ 1) (hS : S.2.2 a = some (.inl (t, A))) (hn : A.1 = n) (hd : decode M.2.1 pc = .ok (.arraylength, 1)) (hp : pc + 1 = pc') (k : ks_X l G M d pc' lv (.int (nI n) :: st) S P) : ks_X l G M d pc lv (.ref a :: st) S P := by
  obtain ⟨v, S', ⟨hm, hV⟩, hP⟩ := k
  by_cases hb : a < ks_B
  · exact ks_alen ht hS hn hb hd hp ⟨v, S', ⟨hm, hV⟩, hP⟩
  · refine ⟨v, S', ⟨hm, fun p e R s m args below meth c H locs cells slots ls C hH => ?_⟩, hP⟩
    obtain ⟨h1, -, -⟩ := ks_ltT hH hS ht1
    exact absurd (Nat.lt_of_lt_of_le h1 hH.2.1) hb
end KsN
section KsCB
variable {l : Launch} {G : ks_G} {M : ks_M} {d pc pc' : Nat} {lv : List (Nat × Value)} {st : List Value} {S : ks_S} {P : Option Value → ks_S → Prop}
/-- arraycopy between rows of bytes -/
theorem ks_copyB {ix a0 a1 n0 n1 sp dp n : Nat} {f g : Nat → Nat} {zn zd zs : Int32} (h0 : S.2.2 a0 = some (kB n0 f)) (h1 : S.2.2 a1 = some (kB n1 g)) (en : zn = nI n) (ed : zd = nI dp) (es : zs = nI sp) (hs : sp + n ≤ n0) (hdd : dp + n ≤ n1) (hn0 : n0 < 2 ^ 31) (hn1 : n1 < 2 ^ 31)
    (hlk : Cond.methodLink M.1 ix arraycopyName ∈ lw_tbl) (hnt : Cond.native arraycopyName ∈ lw_tbl) (hstc : Cond.static arraycopyName ∈ lw_tbl) (hini : Cond.initialized "java/lang/System" ∈ lw_tbl) (hd1 : 1 ≤ d) (hsm : (st.map fun v => v.category).sum ≤ 8) (hd : decode M.2.1 pc = .ok (.invokestatic ix, 3)) (hp : pc + 3 = pc') (k : ks_X l G M d pc' lv st (ks_set S a1 (kB n1 (va_cpy f g sp dp n))) P) : ks_X l G M d pc lv (.int zn :: .int zd :: .ref a1 :: .int zs :: .ref a0 :: st) S P := by
  subst en
  subst ed
  subst es
  obtain ⟨v, S', hV, hP⟩ := k
  by_cases hb : a1 < ks_B
  · refine ks_copyi (t := 0) (ty := .byte) rfl (fun h => by cases h) rfl hb h0 h1 hs hdd hn0 hn1 (fun _ => kb_fit _ _) hlk hnt hstc hini hd1 hsm hd hp ?_
    rw [kb_cpy]
    exact ⟨v, S', hV, hP⟩
  · refine ⟨v, S', ⟨hV.1, fun p e R s m args below meth c H locs cells slots ls C hH => ?_⟩, hP⟩
    obtain ⟨h2, -, -⟩ := ks_ltT hH h1 (by decide)
    exact absurd (Nat.lt_of_lt_of_le h2 hH.2.1) hb
end KsCB

/-! ARRAYS: copyOf; new cells beside old ones -/
theorem ks_aret {l : Launch} {G : ks_G} {M : ks_M} {d pc : Nat} {lv : List (Nat × Value)} {S : ks_S} {P : Option Value → ks_S → Prop} {a : Nat} {rt : FieldType} (hr : M.2.2.2.1 = some rt) (hrt : (∃ n, rt = .object n) ∨ ∃ t, rt = .array t) (hd : decode M.2.1 pc = .ok (.areturn, 1)) (hP : P (some (.ref a)) S) : ks_X l G M d pc lv [.ref a] S P := by
  refine ⟨some (.ref a), S, ⟨⟨Nat.le_refl _, Nat.le_refl _⟩, fun p e R s m args below meth c H locs cells slots ls CC hH hS hl h1 h2 => ?_⟩, hP⟩
  rw [Nat.sub_self, Nat.add_zero] at h1 h2
  rw [← h1, ← h2]
  exact W.aret (v := .ref (ks_ad G a)) CC.1 CC.2.1 (CC.2.2.1.trans hr) hrt (Or.inr ⟨_, rfl⟩) (fun t ht hW => ks_fin (v := some (.ref a)) CC.2.2.2.2.2.2.2.2.1 hH hS ht hW) hS.2.2 hd CC.2.2.2.2.2.2.1
theorem ks_set_add (S : ks_S) (n : Nat) (e e2 : ks_E) : ks_set (ks_add S n e) S.1 e2 = ks_add S n e2 := by
  unfold ks_set ks_add
  rw [va_up_up]
/-- as ks_up, but new cells may have come -/
def ks_ex (S S' : ks_S) (L : List Nat) : Prop := S.1 ≤ S'.1 ∧ S.2.1 ≤ S'.2.1 ∧ ∀ a, a ∉ L → a < S.1 ∨ ks_B ≤ a → S'.2.2 a = S.2.2 a
theorem ks_up.ex {S S' : ks_S} {L : List Nat} (h : ks_up S S' L) : ks_ex S S' L := ⟨Nat.le_of_eq h.1.symm, Nat.le_of_eq h.2.1.symm, fun a ha _ => h.2.2 a ha⟩
theorem ks_ex.at {S S' : ks_S} {L : List Nat} (h : ks_ex S S' L) {a : Nat} {e : ks_E} (ha : S.2.2 a = some e) (hn : a ∉ L) (hb : a < S.1 ∨ ks_B ≤ a) : S'.2.2 a = some e := (h.2.2 a hn hb).trans ha
theorem ks_ex.trans {S S1 S2 : ks_S} {L : List Nat} (h : ks_ex S S1 L) (h2 : ks_ex S1 S2 L) : ks_ex S S2 L := ⟨Nat.le_trans h.1 h2.1, Nat.le_trans h.2.1 h2.2.1, fun a ha hb => (h2.2.2 a ha (by have := h.1; omega)).trans (h.2.2 a ha hb)⟩
theorem ks_ex.mono {S S1 : ks_S} {L L2 : List Nat} (h : ks_ex S S1 L) (hl : ∀ a, a ∈ L → a ∈ L2) : ks_ex S S1 L2 := ⟨h.1, h.2.1, fun a ha hb => h.2.2 a (fun e => ha (hl a e)) hb⟩
theorem ks_ex_add (S : ks_S) (n : Nat) (e : ks_E) (L : List Nat) (hB : S.1 < ks_B) : ks_ex S (ks_add S n e) L := ⟨Nat.le_succ _, Nat.le_add_right _ _, fun a _ hb => ks_add_ne S n e (by omega)⟩
theorem ks_ex.st {S S1 : ks_S} {L : List Nat} (h : ks_ex S S1 L) (hK : ks_stOK S) (hL : ∀ a ∈ L, a < ks_B) : ks_stOK S1 := fun i q hq => h.at (hK i q hq) (fun hm => by have := hL _ hm; omega) (Or.inr (Nat.le_add_right _ _))
theorem ks_minI {l : Launch} {G : ks_G} {M : ks_M} {d pc pc' : Nat} {lv : List (Nat × Value)} {st : List Value} {S : ks_S} {P : Option Value → ks_S → Prop} {ix : Nat} {x y : Int32} (hlk : Cond.methodLink M.1 ix Lib.Math.min.name ∈ lw_tbl) (hstc : Cond.static Lib.Math.min.name ∈ lw_tbl) (hini : Cond.initialized "java/lang/Math" ∈ lw_tbl) (hcd : Cond.code Lib.Math.min.name Lib.Math.min.code 2 (some .int) ∈ lw_tbl) (hd1 : 1 ≤ d) (hsm : (st.map fun v => v.category).sum ≤ 8) (hd : decode M.2.1 pc = .ok (.invokestatic ix, 3)) (hp : pc + 3 = pc') (k : ks_X l G M d pc' lv (.int (if y < x then y else x) :: st) S P) : ks_X l G M d pc lv (.int y :: .int x :: st) S P := by
  subst hp
  obtain ⟨v, S', ⟨hm, hV⟩, hP⟩ := k
  refine ⟨v, S', ⟨hm, fun p e R s m args below meth c H locs cells slots ls C hH hS hl h1 h2 => ?_⟩, hP⟩
  exact va_mmin C.1 C.2.1 (C.2.2.2.1.trans hl.1.symm) C.2.2.2.2.1 (C.2.2.2.2.2.1 _ hlk rfl) (C.2.2.2.2.2.1 _ hstc rfl) (C.2.2.2.2.2.1 _ hini rfl) (C.2.2.2.2.2.1 _ hcd rfl) (Nat.le_trans hd1 C.2.2.2.2.2.2.2.2.2.1) (by rw [ks_cat]; have := C.2.2.2.2.2.2.2.2.2.2; omega) (by omega) (by omega) hd (hV p e R s m args below meth c H locs cells slots ls C hH hS hl h1 h2)
set_option maxRecDepth 100000 in
set_option maxHeartbeats 800000 in
theorem c_copyOfI {l : Launch} {G : ks_G} {d : Nat} {S : ks_S} {r N k : Nat} {f : Nat → Nat} (hr : S.2.2 r = some (kN N f)) (hrB : r < ks_B) (hr1 : r < S.1) (hk : k < N) (hN : N < 1000000) (hB : S.1 < ks_B) : ks_P l G yJ7_copyOf_59c91 mJ7_copyOf_59c91 (d + 1) [.ref r, .int (nI k)] S (fun z S' => z = some (.ref S.1) ∧ S' = ks_add S k (kN k (fun i => if i < k then f i else 0))) := by
  refine ks_of (by decide) rfl rfl (Nat.le_of_ble_eq_true rfl) ?_
  show ks_X l G mJ7_copyOf_59c91 (d + 1) 0 [(0, .ref r), (1, .int (nI k))] [] S _
  refine ks_iload_n dJ7_copyOf_59c91_0 rfl rfl ?_
  refine ks_aload_n dJ7_copyOf_59c91_1 rfl rfl ?_
  refine ks_alen (by decide) hr rfl hrB dJ7_copyOf_59c91_2 rfl ?_
  refine ks_ti (y := nI N) rfl ?_
  refine ks_icmp_neN (tgt := 14) (by omega) (by omega) dJ7_copyOf_59c91_3 (by decide) rfl (fun h1 => ?_) (fun h1 => ?_)
  · refine ks_iload_n dJ7_copyOf_59c91_14 rfl rfl ?_
    refine ks_newI (N := k) kx_100 (by omega) hB dJ7_copyOf_59c91_15 rfl ?_
    have e0 : (ks_add S k (.inl (1, k, .inl (fun _ => 0)))).2.2 S.1 = some (kN k (fun _ => 0)) := ks_add_new _ _ _
    have e1 : (ks_add S k (.inl (1, k, .inl (fun _ => 0)))).2.2 r = some (kN N f) := (ks_add_ne _ _ _ (Nat.ne_of_lt hr1)).trans hr
    refine ks_astore_n dJ7_copyOf_59c91_17 (by decide) rfl ?_
    refine ks_sub [(2, _), (0, _), (1, _)] rfl ?_
    refine ks_aload_n dJ7_copyOf_59c91_18 rfl rfl ?_
    refine ks_iconst (x := nI 0) dJ7_copyOf_59c91_19 (by decide) rfl ?_
    refine ks_aload_n dJ7_copyOf_59c91_20 rfl rfl ?_
    refine ks_iconst (x := nI 0) dJ7_copyOf_59c91_21 (by decide) rfl ?_
    refine ks_aload_n dJ7_copyOf_59c91_22 rfl rfl ?_
    refine ks_alen (by decide) e1 rfl hrB dJ7_copyOf_59c91_23 rfl ?_
    refine ks_ti (y := nI N) rfl ?_
    refine ks_iload_n dJ7_copyOf_59c91_24 rfl rfl ?_
    refine ks_minI kx_270 kx_271 kx_16 kx_272 (by omega) (Nat.le_of_ble_eq_true rfl) dJ7_copyOf_59c91_25 rfl ?_
    refine ks_ti (y := nI k) (if_pos (nI_lt hk (by omega))) ?_
    refine ks_copyi (n := k) (dp := 0) (sp := 0) (t := 1) rfl (fun h => by first | rfl | cases h) rfl hB e1 e0 (by omega) (by omega) (by omega) (by omega) (fun _ => rfl) kx_273 kx_275 kx_274 kx_17 (by omega) (Nat.le_of_ble_eq_true rfl) dJ7_copyOf_59c91_28 rfl ?_
    refine ks_tS (by rw [kN_cpy]) ?_
    refine ks_aload_n dJ7_copyOf_59c91_31 rfl rfl ?_
    refine ks_aret (rt := .array .int) rfl (Or.inr ⟨_, rfl⟩) dJ7_copyOf_59c91_32 ?_
    have ec : va_cpy f (fun _ => 0) 0 0 k = fun i => if i < k then f i else 0 := by
      funext i
      unfold va_cpy
      by_cases e : i < k
      · rw [if_pos (by omega), if_pos e, show 0 + (i - 0) = i by omega]
      · rw [if_neg (by omega), if_neg e]
    rw [ec]
    exact ⟨rfl, ks_set_add _ _ _ _⟩
  · omega

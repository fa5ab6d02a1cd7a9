/-! THE REFERENCE: tables of rows -/
theorem vm_same (vm : Vm) (c : ClassId) : vm.assignable c c = true := by
  show vm.assignableAux (255 + 1) c c = true
  rw [Vm.assignableAux, beq_self_eq_true, Bool.true_or]
/-- a byte row goes into a row of byte rows -/
theorem ks_aastA {l : Launch} {G : ks_G} {M : ks_M} {d pc pc' : Nat} {lv : List (Nat × Value)} {st : List Value} {S : ks_S} {P : Option Value → ks_S → Prop} {a n b nb : Nat} {g : Nat → Option Nat} {gb : Nat → Nat} {i : Int32} (harr : Cond.arrayClass .byte ∈ lw_tbl) (hS : S.2.2 a = some (kA 4 n g)) (hSb : S.2.2 b = some (kB nb gb)) (hi : vp_in i n) (hd : decode M.2.1 pc = .ok (.aastore, 1)) (hp : pc + 1 = pc') (k : ks_X l G M d pc' lv st (ks_set S a (kA 4 n (va_up g i.toNatClampNeg (some b)))) P) : ks_X l G M d pc lv (.ref b :: .int i :: .ref a :: st) S P := by
  subst hp
  refine ks_write (S1 := ks_set S a (kA 4 n (va_up g i.toNatClampNeg (some b)))) rfl rfl (fun p e R s m args below meth c H locs cells slots ls Q CC hH hS0 hls k => ?_) k
  obtain ⟨h1, h2, h3⟩ := ks_ltT hH hS (by decide)
  obtain ⟨b1, b2, b3⟩ := ks_ltT hH hSb (by decide)
  show W p l e R s m args below meth c H locs cells slots Q (F0 m pc ls (.ref (ks_ad G b) :: .int i :: .ref (ks_ad G a) :: st.map (ks_v G)))
  rw [h2]
  have hKs := CC.2.2.2.2.2.2.2.2.1
  have hK := hKs.1
  have hlt : i.toNatClampNeg < n := Nat.not_le.mp fun q => hi (Or.inr q)
  have h0 : ¬ i < 0 := fun q => hi (Or.inl q)
  have hov := ks_GA_ok G s hKs
  unfold Cond.before Cond.holds at hov
  simp only [Cond.value, beq_iff_eq] at hov
  obtain ⟨comp, q1, q'⟩ := Option.bind_eq_some_iff.mp hov
  obtain ⟨cA, q2, q''⟩ := Option.bind_eq_some_iff.mp q'
  obtain ⟨kA9, q3, q4⟩ := Option.map_eq_some_iff.mp q''
  obtain ⟨hl9, hp9, -⟩ := Array.findIdx?_eq_some_iff_getElem.mp q2
  have hkk : s.vm.classes[cA] = kA9 := (Array.getElem?_eq_some_iff.mp q3).2
  rw [hkk] at hp9
  have hkind : kA9.kind = .array comp (.array .byte) ∧ s.vm.findClass ("[" ++ (FieldType.array .byte).toString) = some cA := by
    cases hkd : kA9.kind with
    | array component ty =>
      rw [hkd] at q4 hp9
      simp at q4 hp9
      exact ⟨by rw [hp9, q4.1], q4.2⟩
    | _ => rw [hkd] at q4; simp at q4
  have hcA : cA = G.2.1 4 := Option.some.inj (hkind.2.symm.trans (hK.2 4 _ rfl).2)
  have hcp : comp = G.2.1 0 := Option.some.inj (q1.symm.trans (hK.2 0 _ rfl).2)
  subst hcA
  subst hcp
  obtain ⟨c0, k0, comp0, f1, f2, f3⟩ := Cond.arrayClass_spec (CC.2.2.2.2.2.1 _ harr rfl)
  have hc0 : c0 = G.2.1 0 := Option.some.inj (f1.symm.trans (hK.2 0 _ rfl).2)
  subst hc0
  refine W.aast (cell := arrV (G.2.1 4) n (fun j => va_rf ((g j).map (ks_ad G)))) (cv := arrV (G.2.1 0) nb (fun j => .int (kb gb j))) CC.1 CC.2.1 h3 (fun q h => by cases h) (fun h => by cases h) q3 hkind.1 rfl f2 ⟨h0, by rw [arrV_size]; exact hlt⟩ (by rw [b2]; exact b3) (fun q h => by cases h) f2 (vm_same _ _) rfl rfl hd fun H' e1 e2 e3 => ?_
  refine k H' _ (hH.set h1 e2 e3 ?_) (hS0.put e2 e3 (Nat.le_add_right _ _))
  show H'[G.2.2.1 + a]? = some (arrV (G.2.1 4) n (fun j => va_rf ((va_up g i.toNatClampNeg (some b) j).map (ks_ad G))))
  rw [e1, arrV_store]
  congr 2
  funext q
  by_cases hq : q = i.toNatClampNeg <;> simp [updV, va_up, hq, va_rf]
theorem ks_aastAN {l : Launch} {G : ks_G} {M : ks_M} {d pc pc' : Nat} {lv : List (Nat × Value)} {st : List Value} {S : ks_S} {P : Option Value → ks_S → Prop} {a n b nb i : Nat} {g : Nat → Option Nat} {gb : Nat → Nat} (harr : Cond.arrayClass .byte ∈ lw_tbl) (hS : S.2.2 a = some (kA 4 n g)) (hSb : S.2.2 b = some (kB nb gb)) (hi : i < n) (hn : n < 2 ^ 31) (hd : decode M.2.1 pc = .ok (.aastore, 1)) (hp : pc + 1 = pc') (k : ks_X l G M d pc' lv st (ks_set S a (kA 4 n (va_up g i (some b)))) P) : ks_X l G M d pc lv (.ref b :: .int (nI i) :: .ref a :: st) S P := by
  exact ks_aastA harr hS hSb (vp_in_nI hi hn) hd hp (by rw [nI_clamp (by omega)]; exact k)
/-- nothing stands where no cell was made -/
def nwS (S : ks_S) : Prop := ∀ a, S.1 ≤ a → a < ks_B → S.2.2 a = none
def cntN (f : Nat → Bool) : Nat → Nat
  | 0 => 0
  | n + 1 => cntN f n + (if f n = true then 1 else 0)
theorem cntN_c {f g : Nat → Bool} : ∀ {n : Nat}, (∀ i, i < n → f i = g i) → cntN f n = cntN g n
  | 0, _ => rfl
  | n + 1, h => by
    unfold cntN
    rw [cntN_c (n := n) (fun i hi => h i (by omega)), h n (by omega)]
theorem cntN_up {f g : Nat → Bool} {q : Nat} : ∀ {n : Nat}, q < n → f q = true → g q = false → (∀ i, i ≠ q → f i = g i) → cntN f n = cntN g n + 1
  | 0, h, _, _, _ => absurd h (Nat.not_lt_zero _)
  | n + 1, h, h1, h2, h3 => by
    unfold cntN
    by_cases e : q = n
    · subst e
      rw [cntN_c (n := q) (f := f) (g := g) (fun i hi => h3 i (by omega)), h1, h2]
      rfl
    · rw [cntN_up (n := n) (by omega) h1 h2 h3, h3 n (fun h => e h.symm)]
      omega
theorem cntN_le (f : Nat → Bool) : ∀ n, cntN f n ≤ n
  | 0 => Nat.le_refl _
  | n + 1 => by
    unfold cntN
    have := cntN_le f n
    split <;> omega
/-- how many places of the three tables are free -/
def frT (T : Nat → Nat → Option Nat) : Nat := cntN (fun q => decide (T (q / 1002) (q % 1002) = none)) 3006
theorem frT_c {T T' : Nat → Nat → Option Nat} (h : ∀ a i, T' a i = none ↔ T a i = none) : frT T' = frT T := cntN_c (fun q _ => decide_eq_decide.mpr (h _ _))
theorem frT_le (T : Nat → Nat → Option Nat) : frT T ≤ 3006 := cntN_le _ _
/-- table a at i -/
def upT (T : Nat → Nat → Option Nat) (a i : Nat) (v : Option Nat) : Nat → Nat → Option Nat := va_up T a (va_up (T a) i v)
theorem upT_self (T : Nat → Nat → Option Nat) (a i : Nat) (v : Option Nat) : upT T a i v a i = v := by unfold upT; rw [va_up_self, va_up_self]
theorem upT_ne {T : Nat → Nat → Option Nat} {a i b j : Nat} {v : Option Nat} (h : b ≠ a ∨ j ≠ i) : upT T a i v b j = T b j := by
  unfold upT
  by_cases e : b = a
  · subst e; rw [va_up_self, va_up_ne _ _ (h.resolve_left (fun h => h rfl))]
  · rw [va_up_ne _ _ e]
theorem upT_row (T : Nat → Nat → Option Nat) (a i : Nat) (v : Option Nat) : upT T a i v a = va_up (T a) i v := by unfold upT; rw [va_up_self]
theorem upT_row_ne (T : Nat → Nat → Option Nat) {a b : Nat} (i : Nat) (v : Option Nat) (h : b ≠ a) : upT T a i v b = T b := by unfold upT; rw [va_up_ne _ _ h]
theorem frT_up {T : Nat → Nat → Option Nat} {a i x : Nat} (ha : a < 3) (hi : i < 1002) (h : T a i = none) : frT T = frT (upT T a i (some x)) + 1 := by
  have d1 : (1002 * a + i) / 1002 = a := by omega
  have d2 : (1002 * a + i) % 1002 = i := by omega
  refine cntN_up (q := 1002 * a + i) (by omega) ?_ ?_ (fun q hq => ?_)
  · rw [d1, d2]; exact decide_eq_true h
  · rw [d1, d2, upT_self]; exact decide_eq_false (fun h => by cases h)
  · rw [upT_ne (by omega)]
/-- the three tables: the rows in them are all different, and free ones of 520 bytes -/
def tbS (S : ks_S) (T : Nat → Nat → Option Nat) : Prop := (∀ a, a < 3 → S.2.2 (361 + 2 * a) = some (kA 4 1002 (T a))) ∧ (∀ a i b j r, T a i = some r → T b j = some r → a = b ∧ i = j) ∧ (∀ a i r, T a i = some r → (a < 3 ∧ i < 1002) ∧ ∃ g, kO g ∧ S.2.2 r = some (kB 520 g)) ∧ nwS S ∧ S.1 + frT T + 2 < ks_B
/-- what stays: all but the cells L and rows of 520 bytes -/
def sfK (L : List Nat) (S S' : ks_S) (F F' : Nat) : Prop := (S'.1 + F' = S.1 + F ∧ S'.2.1 + 520 * F' = S.2.1 + 520 * F ∧ S.1 ≤ S'.1) ∧ ∀ a e, S.2.2 a = some e → a ∉ L → (∀ g, e ≠ kB 520 g) → S'.2.2 a = some e
theorem sfK.trans {L : List Nat} {S S1 S2 : ks_S} {F F1 F2 : Nat} (h : sfK L S S1 F F1) (k : sfK L S1 S2 F1 F2) : sfK L S S2 F F2 := ⟨⟨k.1.1.trans h.1.1, k.1.2.1.trans h.1.2.1, Nat.le_trans h.1.2.2 k.1.2.2⟩, fun a e ha hl he => k.2 a e (h.2 a e ha hl he) hl he⟩
theorem sfK.mono {L L' : List Nat} {S S1 : ks_S} {F F1 : Nat} (h : sfK L S S1 F F1) (hl : ∀ a, a ∈ L → a ∈ L') : sfK L' S S1 F F1 := ⟨h.1, fun a e ha hn he => h.2 a e ha (fun q => hn (hl a q)) he⟩
theorem sfK.of {L : List Nat} {S S1 : ks_S} {F : Nat} (h : ks_up S S1 L) : sfK L S S1 F F := ⟨⟨by rw [h.1], by rw [h.2.1], by rw [h.1]; exact Nat.le_refl _⟩, fun a e ha hl _ => h.at ha hl⟩
theorem sfK.rf (L : List Nat) (S : ks_S) (F : Nat) : sfK L S S F F := ⟨⟨rfl, rfl, Nat.le_refl _⟩, fun a e ha _ _ => ha⟩
theorem nwS.up {S S1 : ks_S} {L : List Nat} (h : nwS S) (hu : ks_up S S1 L) (hL : ∀ a ∈ L, a < S.1 ∨ ks_B ≤ a) : nwS S1 := fun a h1 h2 => by
  rw [hu.1] at h1
  rw [hu.2.2 a (fun hm => by have := hL a hm; omega)]
  exact h a h1 h2
theorem nwS.lt {S : ks_S} (h : nwS S) {a : Nat} {e : ks_E} (ha : S.2.2 a = some e) : a < S.1 ∨ ks_B ≤ a := by
  by_cases c : a < S.1
  · exact Or.inl c
  · by_cases c2 : a < ks_B
    · rw [h a (by omega) c2] at ha; cases ha
    · exact Or.inr (by omega)
/-- a write elsewhere leaves the tables -/
theorem tbS.up {S S1 : ks_S} {T : Nat → Nat → Option Nat} {L : List Nat} (h : tbS S T) (hu : ks_up S S1 L) (h1 : 361 ∉ L ∧ 363 ∉ L ∧ 365 ∉ L) (h2 : ∀ x ∈ L, ∃ e, S.2.2 x = some e ∧ ∀ g, e ≠ kB 520 g) : tbS S1 T := by
  obtain ⟨a1, a2, a3, a4, a5⟩ := h
  refine ⟨fun a ha => hu.at (a1 a ha) ?_, a2, fun a i r hr => ?_, a4.up hu (fun x hx => ?_), by rw [hu.1]; exact a5⟩
  · have : a = 0 ∨ a = 1 ∨ a = 2 := by omega
    rcases this with rfl | rfl | rfl
    · exact h1.1
    · exact h1.2.1
    · exact h1.2.2
  · obtain ⟨b1, g, b2, b3⟩ := a3 a i r hr
    refine ⟨b1, g, b2, hu.at b3 (fun hm => ?_)⟩
    obtain ⟨e, e1, e2⟩ := h2 r hm
    rw [b3] at e1
    exact e2 g (Option.some.inj e1).symm
  · obtain ⟨e, e1, -⟩ := h2 x hx
    exact a4.lt e1
set_option maxRecDepth 100000 in
set_option maxHeartbeats 800000 in
theorem c_md_row {l : Launch} {G : ks_G} {d : Nat} {S : ks_S} {T : Nat → Nat → Option Nat} {a i : Nat} (hT : tbS S T) (ha : a < 3) (hi : i < 1002) : ks_P l G yX16_row mX16_row d [.ref (361 + 2 * a), .int (nI i)] S (fun z S' => ∃ T' r, z = some (.ref r) ∧ tbS S' T' ∧ T' a i = some r ∧ (∀ b j, b ≠ a ∨ j ≠ i → T' b j = T b j) ∧ (∀ x, T a i = some x → T' = T ∧ S' = S) ∧ (T a i = none → r = S.1) ∧ sfK [361 + 2 * a] S S' (frT T) (frT T') ∧ (∀ x g, S.2.2 x = some (kB 520 g) → S'.2.2 x = some (kB 520 g))) := by
  have hTb := id hT
  obtain ⟨a1, a2, a3, a4, a5⟩ := hT
  have hA := a1 a ha
  refine ks_of (by decide) rfl rfl (Nat.le_of_ble_eq_true rfl) ?_
  show ks_X l G mX16_row d 0 [(0, .ref (361 + 2 * a)), (1, .int (nI i))] [] S _
  cases hr : T a i with
    | none =>
      refine ks_aload_n dX16_row_0 rfl rfl ?_
      refine ks_iload_n dX16_row_1 rfl rfl ?_
      refine ks_aaldO (i := i) (by decide) hA rfl hi (by decide) hr dX16_row_2 rfl ?_
      refine ks_ifnonnullN dX16_row_3 rfl ?_
      refine ks_aload_n dX16_row_6 rfl rfl ?_
      refine ks_iload_n dX16_row_7 rfl rfl ?_
      refine ks_sipush (x := nI 520) dX16_row_8 (by decide) rfl ?_
      refine ks_newBx (N := 520) (x := S.1) rfl kx_74 (by decide) (by omega) dX16_row_11 rfl (fun T1 q1 => ?_)
      have lA : (361 + 2 * a : Nat) < ks_B := by unfold ks_B; omega
      have hA1 : T1.2.2 (361 + 2 * a) = some (kA 4 1002 (T a)) := (q1.2.2.2 _ (fun h => by have := a4.lt hA; omega)).trans hA
      refine ks_aastAN (i := i) kx_74 hA1 q1.2.2.1 hi (by decide) dX16_row_13 rfl ?_
      have hT' : ∀ b j, b ≠ a ∨ j ≠ i → upT T a i (some S.1) b j = T b j := fun b j h => upT_ne h
      have nS : ∀ x e, S.2.2 x = some e → x ≠ S.1 := fun x e hx h => by have := a4.lt hx; omega
      refine ks_aload_n dX16_row_14 rfl rfl ?_
      refine ks_iload_n dX16_row_15 rfl rfl ?_
      refine ks_aaldN (i := i) (b := S.1) (by decide) (ks_set_same _ _ _) rfl hi (by decide) (va_up_self _ _ _) dX16_row_16 rfl ?_
      refine ks_aret rfl (Or.inr ⟨_, rfl⟩) dX16_row_17 ?_
      have fr := frT_up (x := S.1) ha hi hr
      refine ⟨upT T a i (some S.1), S.1, rfl, ⟨fun b hb => ?_, fun b j b2 j2 r h1 h2 => ?_, fun b j r h1 => ?_, fun x h1 h2 => ?_, ?_⟩, upT_self _ _ _ _, hT', fun x h => (by cases h), fun _ => rfl, ⟨⟨?_, ?_, ?_⟩, fun x e h1 h2 h3 => ?_⟩, fun x g h1 => ?_⟩
      · by_cases e : b = a
        · subst e; rw [upT_row]; exact ks_set_same _ _ _
        · rw [upT_row_ne _ _ _ e, ks_set_ne _ _ (by omega), q1.2.2.2 _ (nS _ _ (a1 b hb))]; exact a1 b hb
      · by_cases e1 : b = a ∧ j = i
        · obtain ⟨rfl, rfl⟩ := e1
          rw [upT_self] at h1
          by_cases e2 : b2 = b ∧ j2 = j
          · exact ⟨e2.1.symm, e2.2.symm⟩
          · rw [upT_ne (by omega)] at h2
            obtain ⟨-, g, -, hg⟩ := a3 _ _ _ h2
            exact absurd (Option.some.inj h1).symm (nS _ _ hg)
        · rw [upT_ne (by omega)] at h1
          by_cases e2 : b2 = a ∧ j2 = i
          · obtain ⟨rfl, rfl⟩ := e2
            rw [upT_self] at h2
            obtain ⟨-, g, -, hg⟩ := a3 _ _ _ h1
            exact absurd (Option.some.inj h2).symm (nS _ _ hg)
          · rw [upT_ne (by omega)] at h2
            exact a2 _ _ _ _ _ h1 h2
      · by_cases e1 : b = a ∧ j = i
        · obtain ⟨rfl, rfl⟩ := e1
          rw [upT_self] at h1
          obtain rfl := Option.some.inj h1
          exact ⟨⟨ha, hi⟩, _, kO_zero, (ks_set_ne _ _ (fun h => nS _ _ hA h.symm)).trans q1.2.2.1⟩
        · rw [upT_ne (by omega)] at h1
          obtain ⟨b1, g, b2, b3⟩ := a3 _ _ _ h1
          exact ⟨b1, g, b2, (ks_set_ne _ _ (ks_ne b3 hA (fun h => by cases h))).trans ((q1.2.2.2 _ (nS _ _ b3)).trans b3)⟩
      · have h1 : T1.1 ≤ x := h1
        rw [q1.1] at h1
        rw [ks_set_ne _ _ (fun h => by have := a4.lt hA; omega), q1.2.2.2 _ (by omega)]
        exact a4 x (by omega) h2
      · show T1.1 + _ + 2 < ks_B
        rw [q1.1]; omega
      · show T1.1 + _ = _
        rw [q1.1]; omega
      · show T1.2.1 + _ = _
        rw [q1.2.1]; omega
      · show S.1 ≤ T1.1
        rw [q1.1]; omega
      · rw [List.mem_singleton] at h2
        exact (ks_set_ne _ _ h2).trans ((q1.2.2.2 _ (nS _ _ h1)).trans h1)
      · exact (ks_set_ne _ _ (ks_ne h1 hA (fun h => by cases h))).trans ((q1.2.2.2 _ (nS _ _ h1)).trans h1)
    | some r =>
      refine ks_aload_n dX16_row_0 rfl rfl ?_
      refine ks_iload_n dX16_row_1 rfl rfl ?_
      refine ks_aaldN (i := i) (b := r) (by decide) hA rfl hi (by decide) hr dX16_row_2 rfl ?_
      refine ks_ifnonnull (tgt := 14) dX16_row_3 (by decide) ?_
      refine ks_aload_n dX16_row_14 rfl rfl ?_
      refine ks_iload_n dX16_row_15 rfl rfl ?_
      refine ks_aaldN (i := i) (b := r) (by decide) hA rfl hi (by decide) hr dX16_row_16 rfl ?_
      refine ks_aret rfl (Or.inr ⟨_, rfl⟩) dX16_row_17 ?_
      exact ⟨T, r, rfl, hTb, hr, fun _ _ _ => rfl, fun _ _ => ⟨rfl, rfl⟩, fun h => (by cases h), sfK.rf _ _ _, fun x g h => h⟩

/-! CONSTRUCTORS: rows of rows, DraftTx -/
/-- a row of byte rows can be made -/
def ks_GA (G : ks_G) : Prop := ∀ U : State, ks_K G U → (Cond.arrayOver (.array .byte)).before #[] U = true
theorem ks_GA_ok (G : ks_G) : ks_GA G := fun U h => h.2.1 (.arrayOver (.array .byte)) (List.mem_append_right _ (List.mem_of_getElem? (i := 785) (by decide +kernel))) rfl
def ks_mk (S : ks_S) (N K : Nat) : ks_S := (S.1 + 1 + N, S.2.1 + N + N * K, fun a => if a = S.1 then some (kA 4 N (fun i => if i < N then some (S.1 + 1 + i) else none)) else if S.1 < a ∧ a ≤ S.1 + N then some (kB K (fun _ => 0)) else S.2.2 a)
theorem mn_outer (c : ClassId) (N h0 : Nat) : ∀ i : Nat, Jvm.Free.Multi.outerC c N h0 i = arrV c N (fun j => va_rf (if j < i then some (h0 + 1 + j) else none))
  | 0 => by
    show ({ cls := c, slots := Array.replicate N .null, vm := .none } : Cell) = _
    rw [arrV_new]
    refine congrArg (arrV c N) (funext fun j => ?_)
    simp [va_rf]
  | i + 1 => by
    show (Jvm.Free.Multi.outerC c N h0 i).setSlot i (.ref (h0 + 1 + i)) = _
    rw [mn_outer c N h0 i, arrV_store]
    refine congrArg (arrV c N) (funext fun j => ?_)
    by_cases e : j = i
    · subst e
      simp [updV, va_rf]
    · by_cases h : j < i
      · simp [updV, e, h, Nat.lt_succ_of_lt h]
      · simp [updV, e, h, show ¬ j < i + 1 by omega]
theorem ks_mna {l : Launch} {G : ks_G} {M : ks_M} {d pc pc' : Nat} {lv : List (Nat × Value)} {st : List Value} {S : ks_S} {P : Option Value → ks_S → Prop} {N K ix : Nat} {n k : Int32} (hGA : ks_GA G) (hcl : Cond.classLink M.1 ix "[[B" ∈ lw_tbl) (harr : Cond.arrayClass .byte ∈ lw_tbl) (hn : ¬ n < 0) (hk : ¬ k < 0) (hN : n.toNatClampNeg = N) (hKk : k.toNatClampNeg = K) (hb1 : N < 100000) (hb2 : K < 100000) (hB : S.1 + 1 + N < ks_B) (hd : decode M.2.1 pc = .ok (.multianewarray ix 2, 4)) (hp : pc + 4 = pc') (kk : ks_X l G M d pc' lv (.ref S.1 :: st) (ks_mk S N K) P) : ks_X l G M d pc lv (.int k :: .int n :: st) S P := by
  subst hp
  refine ks_make (S1 := ks_mk S N K) (kc := 1 + N) (n := N + N * K) (by show S.1 + 1 + N = _; omega) (by show S.2.1 + N + N * K = _; omega) (fun p e R s m args below meth c H locs cells slots ls Q CC hH hS0 hls hcc hss k9 => ?_) kk
  have hKs := CC.2.2.2.2.2.2.2.2.1
  have hK := hKs.1
  have e9 : "[" ++ (FieldType.array .byte).toString = "[[B" := by decide +kernel
  intro T hT X
  subst hN
  subst hKk
  obtain ⟨vm₁, cA, comp, hW, fA, fC, hO, hI, X', step⟩ := X.multianewarray2F (ty := .byte) CC.1 CC.2.2.2.2.1 (by rw [e9]; exact CC.2.2.2.2.2.1 _ hcl rfl) (hGA s hKs) (CC.2.2.2.2.2.1 _ harr rfl) (g := F0 m pc ls (.int k :: .int n :: st.map (ks_v G))) rfl (by rw [CC.2.1]; exact hd) rfl hn hk (by omega) (by show k.toNatClampNeg * 1 ≤ _; omega) (by omega) (by decide) rfl hcc hss
  have hcA : cA = G.2.1 4 := Option.some.inj (fA.symm.trans (hK.2 4 _ rfl).2)
  have hcp : comp = G.2.1 0 := Option.some.inj (fC.symm.trans (hK.2 0 _ rfl).2)
  subst hcA
  subst hcp
  generalize hF : Jvm.Free.Multi.fill (T.setVm vm₁) (G.2.1 4) (G.2.1 0) n.toNatClampNeg k.toNatClampNeg (defaultValue .byte) n.toNatClampNeg = F at X' step
  have hTh : (T.setVm vm₁).heap = H := hT
  obtain ⟨f1, f2, -, -⟩ := Jvm.Free.Multi.fill_facts (T.setVm vm₁) (G.2.1 4) (G.2.1 0) n.toNatClampNeg k.toNatClampNeg (defaultValue .byte) n.toNatClampNeg
  rw [hF, hTh] at f1 f2
  have hold : ∀ x : Nat, x < H.size → F.heap[x]? = H[x]? := fun x hx => by
    have := Jvm.Free.Multi.fill_old (T.setVm vm₁) (G.2.1 4) (G.2.1 0) n.toNatClampNeg k.toNatClampNeg (defaultValue .byte) (a := x) (by rw [hTh]; exact hx) n.toNatClampNeg
    rw [hF, hTh] at this
    exact this
  have hrow : ∀ j : Nat, j < n.toNatClampNeg → F.heap[H.size + 1 + j]? = some (arrV (G.2.1 0) k.toNatClampNeg (fun _ => .int 0)) := fun j hj => by
    have := Jvm.Free.Multi.fill_inner (T.setVm vm₁) (G.2.1 4) (G.2.1 0) n.toNatClampNeg k.toNatClampNeg (defaultValue .byte) n.toNatClampNeg j hj
    rw [hF, hTh] at this
    rw [this]
    show some ({ cls := G.2.1 0, slots := Array.replicate k.toNatClampNeg (defaultValue .byte), vm := .none } : Cell) = _
    rw [arrV_new]
    rfl
  have hz := hH.1
  have hH1 : ks_H G (ks_mk S n.toNatClampNeg k.toNatClampNeg) s F.heap := by
    refine ⟨by rw [f1, hz]; show _ = G.2.2.1 + (S.1 + 1 + n.toNatClampNeg); omega, Nat.le_of_lt hB, fun a e ha => ?_, hH.2.2.2.kept (fun q hq _ => hold q hq)⟩
    change (if a = S.1 then some (kA 4 n.toNatClampNeg (fun i => if i < n.toNatClampNeg then some (S.1 + 1 + i) else none)) else if S.1 < a ∧ a ≤ S.1 + n.toNatClampNeg then some (kB k.toNatClampNeg (fun _ => 0)) else S.2.2 a) = some e at ha
    by_cases c1 : a = S.1
    · rw [if_pos c1] at ha
      subst c1
      cases ha
      refine Or.inl ⟨by show S.1 < S.1 + 1 + n.toNatClampNeg; omega, ?_⟩
      show F.heap[G.2.2.1 + S.1]? = some (vp_cell (G.2.1 4) (n.toNatClampNeg, .inr (.inr (.inr (.inr (fun i => (if i < n.toNatClampNeg then some (S.1 + 1 + i) else none).map (ks_ad G)))))))
      rw [← hz, f2, vp_cell_q, mn_outer]
      refine congrArg some (congrArg (arrV (G.2.1 4) n.toNatClampNeg) (funext fun i => ?_))
      by_cases hi : i < n.toNatClampNeg
      · rw [if_pos hi, if_pos hi]
        show va_rf (some (H.size + 1 + i)) = va_rf (some (ks_ad G (S.1 + 1 + i)))
        rw [ks_ad_lt (by omega), hz]
        congr 2
        omega
      · rw [if_neg hi, if_neg hi]
        rfl
    · rw [if_neg c1] at ha
      by_cases c2 : S.1 < a ∧ a ≤ S.1 + n.toNatClampNeg
      · rw [if_pos c2] at ha
        cases ha
        refine Or.inl ⟨by show a < S.1 + 1 + n.toNatClampNeg; omega, ?_⟩
        show F.heap[G.2.2.1 + a]? = some (vp_cell (G.2.1 0) (k.toNatClampNeg, .inl (kb (fun _ => 0))))
        rw [← kb_0]
        have := hrow (a - S.1 - 1) (by omega)
        rw [hz, show G.2.2.1 + S.1 + 1 + (a - S.1 - 1) = G.2.2.1 + a by omega] at this
        exact this
      · rw [if_neg c2] at ha
        rcases hH.2.2.1 a e ha with ⟨h1, h2⟩ | h1
        · exact Or.inl ⟨by show a < S.1 + 1 + n.toNatClampNeg; omega, h2.kept (hold _ (by rw [hz]; omega))⟩
        · exact Or.inr h1
  have hS1 : va_S (ks_A G) s.heap F.heap locs := ⟨Nat.le_trans hS0.1 (by rw [f1]; omega), fun q g1 g2 => (hold q (Nat.lt_of_lt_of_le g1 hS0.1)).trans (hS0.2.1 q g1 g2), hS0.2.2⟩
  have h9 := k9 F.heap hH1 hS1
  have e5 : (List.map (ks_v G) (.ref S.1 :: st)) = (.ref (G.2.2.1 + S.1) :: st.map (ks_v G)) := by
    show (Value.ref (ks_ad G S.1) :: _) = _
    rw [ks_ad_lt (by omega)]
  rw [e5, ← hz] at h9
  have X2 : Stand p l e R s m args below meth c F locs (cells + (1 + n.toNatClampNeg)) (slots + (n.toNatClampNeg + n.toNatClampNeg * k.toNatClampNeg)) := by
    have : cells + (1 + n.toNatClampNeg) = cells + 1 + n.toNatClampNeg := by omega
    rw [this, ← Nat.add_assoc]
    exact X'
  obtain ⟨t, a1, b1⟩ := h9 F rfl X2
  refine ⟨t, step t ?_, b1⟩
  rw [hT]
  exact a1
theorem ks_mnax {l : Launch} {G : ks_G} {M : ks_M} {d pc pc' : Nat} {lv : List (Nat × Value)} {st : List Value} {S : ks_S} {P : Option Value → ks_S → Prop} {N K ix x : Nat} (hx : S.1 = x) (hGA : ks_GA G) (hcl : Cond.classLink M.1 ix "[[B" ∈ lw_tbl) (harr : Cond.arrayClass .byte ∈ lw_tbl) (hb1 : N < 100000) (hb2 : K < 100000) (hB : x + 1 + N < ks_B) (hd : decode M.2.1 pc = .ok (.multianewarray ix 2, 4)) (hp : pc + 4 = pc') (k : ∀ S2 : ks_S, (S2.1 = x + 1 + N ∧ S2.2.1 = S.2.1 + (N + N * K) ∧ S2.2.2 x = some (kA 4 N (fun i => if i < N then some (x + 1 + i) else none)) ∧ (∀ i, i < N → S2.2.2 (x + 1 + i) = some (kB K (fun _ => 0))) ∧ ∀ a, a < x ∨ x + N < a → S2.2.2 a = S.2.2 a) → ks_X l G M d pc' lv (.ref x :: st) S2 P) : ks_X l G M d pc lv (.int (nI K) :: .int (nI N) :: st) S P := by
  subst hx
  refine ks_mna hGA hcl harr (nI_pos (by omega)) (nI_pos (by omega)) (nI_clamp (by omega)) (nI_clamp (by omega)) hb1 hb2 hB hd hp (k _ ⟨rfl, by show S.2.1 + N + N * K = _; omega, if_pos rfl, fun i hi => ?_, fun a ha => ?_⟩)
  · show (if S.1 + 1 + i = S.1 then _ else if S.1 < S.1 + 1 + i ∧ S.1 + 1 + i ≤ S.1 + N then some (kB K (fun _ => 0)) else _) = _
    rw [if_neg (by omega), if_pos (by omega)]
  · show (if a = S.1 then _ else if S.1 < a ∧ a ≤ S.1 + N then _ else S.2.2 a) = S.2.2 a
    rw [if_neg (by omega), if_neg (by omega)]
set_option maxRecDepth 100000 in
theorem kx784 : Cond.classLink "CoinJudge$DraftTx" 29 "[[B" ∈ lw_tbl := List.mem_append_right _ (List.mem_of_getElem? (i := 784) (by decide +kernel))
set_option maxRecDepth 100000 in
set_option maxHeartbeats 800000 in
theorem c_dx_init {l : Launch} {G : ks_G} {d : Nat} {S : ks_S} {b : Nat} (hGA : ks_GA G) (hb : S.2.2 b = some (.inr (7, [.int (nI 0), .int (nI 0), .null, .long (lN 0), .long (lN 0), .null, .null, .null, .null, .null]))) (hS1 : S.1 = b + 1) (hB : b + 20 < ks_B) : ks_P l G yX4_init mX4_init (d + 1) [.ref b] S (fun z S' => z = none ∧ S'.1 = b + 6 + 1 + 12 ∧ S'.2.1 = S.2.1 + (12 + 192 + 6 + 6 + 6 + (12 + 12 * 600)) ∧ (∀ a, a < b ∨ b + 18 < a → S'.2.2 a = S.2.2 a) ∧ dx_ok S' b (lN 0, lN 0, [], [])) := by
  refine ks_of (by decide) rfl rfl (Nat.le_of_ble_eq_true rfl) ?_
  show ks_X l G mX4_init (d + 1) 0 [(0, .ref b)] [] S _
  refine ks_aload_n dX4_init_0 rfl rfl ?_
  refine ks_objInit kx_783 kx_43 kx_44 (by omega) (by decide) dX4_init_1 rfl ?_
  refine ks_aload_n dX4_init_4 rfl rfl ?_
  refine ks_bipush (x := nI 12) dX4_init_5 (by decide) rfl ?_
  refine ks_newNx (N := 12) (x := b + 1) hS1 kx_100 (by decide) (by omega) dX4_init_7 rfl (fun T1 q1 => ?_)
  refine ks_putF (T := TX4) (kf := 2) kx_790 rfl rfl rfl in_X4 tyX4_ok nmX4 cl_X4 (by decide) ((q1.2.2.2 _ (by omega)).trans hb) (Nat.le_of_ble_eq_true rfl) rfl rfl rfl rfl dX4_init_9 rfl ?_
  refine ks_aload_n dX4_init_12 rfl rfl ?_
  refine ks_sipush (x := nI 192) dX4_init_13 (by decide) rfl ?_
  refine ks_newBx (N := 192) (x := b + 2) q1.1 kx_74 (by decide) (by omega) dX4_init_16 rfl (fun T2 q2 => ?_)
  refine ks_putF (T := TX4) (kf := 5) kx_794 rfl rfl rfl in_X4 tyX4_ok nmX4 cl_X4 (by decide) ((q2.2.2.2 _ (by omega)).trans (ks_set_same _ _ _)) (Nat.le_of_ble_eq_true rfl) rfl rfl rfl rfl dX4_init_18 rfl ?_
  refine ks_aload_n dX4_init_21 rfl rfl ?_
  refine ks_bipush (x := nI 6) dX4_init_22 (by decide) rfl ?_
  refine ks_newNx (N := 6) (x := b + 3) q2.1 kx_100 (by decide) (by omega) dX4_init_24 rfl (fun T3 q3 => ?_)
  refine ks_putF (T := TX4) (kf := 6) kx_795 rfl rfl rfl in_X4 tyX4_ok nmX4 cl_X4 (by decide) ((q3.2.2.2 _ (by omega)).trans (ks_set_same _ _ _)) (Nat.le_of_ble_eq_true rfl) rfl rfl rfl rfl dX4_init_26 rfl ?_
  refine ks_aload_n dX4_init_29 rfl rfl ?_
  refine ks_bipush (x := nI 6) dX4_init_30 (by decide) rfl ?_
  refine ks_newLx (N := 6) (x := b + 4) q3.1 kx_142 (by decide) (by omega) dX4_init_32 rfl (fun T4 q4 => ?_)
  refine ks_putF (T := TX4) (kf := 7) kx_796 rfl rfl rfl in_X4 tyX4_ok nmX4 cl_X4 (by decide) ((q4.2.2.2 _ (by omega)).trans (ks_set_same _ _ _)) (Nat.le_of_ble_eq_true rfl) rfl rfl rfl rfl dX4_init_34 rfl ?_
  refine ks_aload_n dX4_init_37 rfl rfl ?_
  refine ks_bipush (x := nI 6) dX4_init_38 (by decide) rfl ?_
  refine ks_newLx (N := 6) (x := b + 5) q4.1 kx_142 (by decide) (by omega) dX4_init_40 rfl (fun T5 q5 => ?_)
  refine ks_putF (T := TX4) (kf := 8) kx_797 rfl rfl rfl in_X4 tyX4_ok nmX4 cl_X4 (by decide) ((q5.2.2.2 _ (by omega)).trans (ks_set_same _ _ _)) (Nat.le_of_ble_eq_true rfl) rfl rfl rfl rfl dX4_init_42 rfl ?_
  refine ks_aload_n dX4_init_45 rfl rfl ?_
  refine ks_bipush (x := nI 12) dX4_init_46 (by decide) rfl ?_
  refine ks_sipush (x := nI 600) dX4_init_48 (by decide) rfl ?_
  refine ks_mnax (N := 12) (K := 600) (x := b + 6) q5.1 hGA kx784 kx_74 (by decide) (by decide) (by omega) dX4_init_51 rfl (fun T6 q6 => ?_)
  refine ks_putF (T := TX4) (kf := 9) kx_798 rfl rfl rfl in_X4 tyX4_ok nmX4 cl_X4 (by decide) ((q6.2.2.2.2 _ (by omega)).trans (ks_set_same _ _ _)) (Nat.le_of_ble_eq_true rfl) rfl rfl rfl rfl dX4_init_55 rfl ?_
  refine ks_ret rfl dX4_init_58 ?_
  have e1 : T1.2.1 = S.2.1 + 12 := q1.2.1
  have e2 : T2.2.1 = T1.2.1 + 192 := q2.2.1
  have e3 : T3.2.1 = T2.2.1 + 6 := q3.2.1
  have e4 : T4.2.1 = T3.2.1 + 6 := q4.2.1
  have e5 : T5.2.1 = T4.2.1 + 6 := q5.2.1
  have e6 : T6.2.1 = T5.2.1 + (12 + 12 * 600) := q6.2.1
  refine ⟨rfl, q6.1, by show T6.2.1 = _; omega, fun a9 ha => ((ks_set_ne _ _ (by omega)).trans ((q6.2.2.2.2 _ (by omega)).trans ((ks_set_ne _ _ (by omega)).trans ((q5.2.2.2 _ (by omega)).trans ((ks_set_ne _ _ (by omega)).trans ((q4.2.2.2 _ (by omega)).trans ((ks_set_ne _ _ (by omega)).trans ((q3.2.2.2 _ (by omega)).trans ((ks_set_ne _ _ (by omega)).trans ((q2.2.2.2 _ (by omega)).trans ((ks_set_ne _ _ (by omega)).trans ((q1.2.2.2 _ (by omega)).trans rfl)))))))))))), 0, 0, (fun _ => 0), (fun _ => 0), (fun _ => 0), (fun _ => lN 0), (fun _ => lN 0), (fun _ _ => 0), ⟨(ks_set_same _ _ _), ((ks_set_ne _ _ (by omega)).trans ((q6.2.2.2.2 _ (by omega)).trans ((ks_set_ne _ _ (by omega)).trans ((q5.2.2.2 _ (by omega)).trans ((ks_set_ne _ _ (by omega)).trans ((q4.2.2.2 _ (by omega)).trans ((ks_set_ne _ _ (by omega)).trans ((q3.2.2.2 _ (by omega)).trans ((ks_set_ne _ _ (by omega)).trans ((q2.2.2.2 _ (by omega)).trans ((ks_set_ne _ _ (by omega)).trans q1.2.2.1))))))))))), ((ks_set_ne _ _ (by omega)).trans ((q6.2.2.2.2 _ (by omega)).trans ((ks_set_ne _ _ (by omega)).trans ((q5.2.2.2 _ (by omega)).trans ((ks_set_ne _ _ (by omega)).trans ((q4.2.2.2 _ (by omega)).trans ((ks_set_ne _ _ (by omega)).trans ((q3.2.2.2 _ (by omega)).trans ((ks_set_ne _ _ (by omega)).trans q2.2.2.1))))))))), ((ks_set_ne _ _ (by omega)).trans ((q6.2.2.2.2 _ (by omega)).trans ((ks_set_ne _ _ (by omega)).trans ((q5.2.2.2 _ (by omega)).trans ((ks_set_ne _ _ (by omega)).trans ((q4.2.2.2 _ (by omega)).trans ((ks_set_ne _ _ (by omega)).trans q3.2.2.1))))))), ((ks_set_ne _ _ (by omega)).trans ((q6.2.2.2.2 _ (by omega)).trans ((ks_set_ne _ _ (by omega)).trans ((q5.2.2.2 _ (by omega)).trans ((ks_set_ne _ _ (by omega)).trans q4.2.2.1))))), ((ks_set_ne _ _ (by omega)).trans ((q6.2.2.2.2 _ (by omega)).trans ((ks_set_ne _ _ (by omega)).trans q5.2.2.1))), ((ks_set_ne _ _ (by omega)).trans q6.2.2.1), fun i hi => (ks_set_ne _ _ (by omega)).trans ?_, kO_zero, fun _ => kO_zero, by decide, by decide, fun i hi => absurd hi (Nat.not_lt_zero i), fun i hi => absurd hi (Nat.not_lt_zero i), by omega⟩, rfl, rfl⟩
  have := q6.2.2.2.1 i hi
  rw [show b + 6 + 1 + i = b + 7 + i by omega] at this
  exact this

/-! CONSTRUCTORS -/
theorem ks_anew {l : Launch} {G : ks_G} {M : ks_M} {d pc pc' : Nat} {lv : List (Nat × Value)} {st : List Value} {S : ks_S} {P : Option Value → ks_S → Prop} {t N ix : Nat} {C : String} {n : Int32} (ht : (ks_tys G)[t]? = some (G.2.1 t, .object C)) (hcl : Cond.classLink M.1 ix C ∈ lw_tbl) (hov : ∀ U : State, ks_K G U → va_AO C U) (hn : ¬ n < 0) (hN : n.toNatClampNeg = N) (hbytes : N * 4 ≤ 536870912) (hB : S.1 < ks_B) (hd : decode M.2.1 pc = .ok (.anewarray ix, 3)) (hp : pc + 3 = pc') (k : ks_X l G M d pc' lv (.ref S.1 :: st) (ks_add S N (.inl (t, N, .inr (.inr (.inr (.inr (fun _ => none))))))) P) : ks_X l G M d pc lv (.int n :: st) S P := by
  subst hp
  subst hN
  refine ks_make (S1 := ks_add S n.toNatClampNeg (.inl (t, n.toNatClampNeg, .inr (.inr (.inr (.inr (fun _ => none))))))) (kc := 1) (n := n.toNatClampNeg) rfl rfl (fun p e R s m args below meth c H locs cells slots ls Q CC hH hS0 hls hcc hss k => ?_) k
  have hK := CC.2.2.2.2.2.2.2.2.1.1
  refine W.anew CC.1 CC.2.1 CC.2.2.2.2.1 (CC.2.2.2.2.2.1 _ hcl rfl) (va_AO.use (hov s CC.2.2.2.2.2.2.2.2.1)) rfl hd rfl hn hbytes hcc hss fun cA kA comp f1 f2 f3 f4 => ?_
  have hcA : cA = G.2.1 t := by
    obtain ⟨_, _, _, _, _, h4⟩ := (hK.2 t _ ht).2
    exact Option.some.inj (f1.symm.trans h4)
  subst hcA
  generalize hH1 : H.push ({ cls := G.2.1 t, slots := Array.replicate n.toNatClampNeg .null, vm := .none } : Cell) = H1
  have z1 : H1.size = H.size + 1 := by rw [← hH1, Array.size_push]
  have e1 : H1[H.size]? = some (arrV (G.2.1 t) n.toNatClampNeg (fun _ => .null)) := by rw [← hH1, Array.getElem?_push_size, ← arrV_new]
  have o1 : ∀ q : Nat, q < H.size → H1[q]? = H[q]? := fun q hq => by rw [← hH1, Array.getElem?_push, if_neg (Nat.ne_of_lt hq)]
  rw [hH.1] at e1
  have h9 := k H1 (hH.add hB (by rw [z1, hH.1]) (fun q hq => o1 q (by first | exact hq | (rw [hH.1]; exact hq))) (by
    show H1[G.2.2.1 + S.1]? = some (vp_cell (G.2.1 t) (n.toNatClampNeg, .inr (.inr (.inr (.inr (fun _ => none))))))
    rw [vp_cell_q]
    exact e1)) ⟨Nat.le_trans hS0.1 (by rw [z1]; omega), fun q g1 g2 => (o1 q (Nat.lt_of_lt_of_le g1 hS0.1)).trans (hS0.2.1 q g1 g2), hS0.2.2⟩
  have e5 : (List.map (ks_v G) (.ref S.1 :: st)) = (.ref (G.2.2.1 + S.1) :: st.map (ks_v G)) := by
    show (Value.ref (ks_ad G S.1) :: _) = _
    rw [ks_ad_lt hB]
  rw [e5, ← hH.1] at h9
  exact h9
theorem ks_anewx {l : Launch} {G : ks_G} {M : ks_M} {d pc pc' : Nat} {lv : List (Nat × Value)} {st : List Value} {S : ks_S} {P : Option Value → ks_S → Prop} {t N ix x : Nat} {C : String} (hx : S.1 = x) (ht : (ks_tys G)[t]? = some (G.2.1 t, .object C)) (hcl : Cond.classLink M.1 ix C ∈ lw_tbl) (hov : ∀ U : State, ks_K G U → va_AO C U) (hN : N < 1000000) (hB : x < ks_B) (hd : decode M.2.1 pc = .ok (.anewarray ix, 3)) (hp : pc + 3 = pc') (k : ∀ S2 : ks_S, ks_gr S S2 x N (.inl (t, N, .inr (.inr (.inr (.inr (fun _ => none)))))) → ks_X l G M d pc' lv (.ref x :: st) S2 P) : ks_X l G M d pc lv (.int (nI N) :: st) S P := by
  subst hx
  exact ks_anew ht hcl hov (nI_pos (by omega)) (nI_clamp (by omega)) (by omega) hB hd hp (k _ ⟨rfl, rfl, ks_add_new _ _ _, fun a ha => ks_add_ne _ _ _ ha⟩)
theorem kI_zero (n : Nat) : kN n (fun _ => 0) = kI n (fun _ => 0) := rfl
theorem dg_zero : ∀ n, dg 256 (fun _ => 0) n = 0
  | 0 => rfl
  | n + 1 => by rw [dg, dg_zero n, Nat.zero_mul]
set_option maxRecDepth 100000 in
set_option maxHeartbeats 800000 in
theorem c_hs_init {l : Launch} {G : ks_G} {d : Nat} {S : ks_S} (hb : S.2.2 7 = some (.inr (9, [.null, .null, .null, .null, .null, .null]))) (hS1 : S.1 = 8) : ks_P l G yX6_init mX6_init (d + 1) [.ref 7] S (fun z S' => z = none ∧ S'.1 = 14 ∧ S'.2.1 = S.2.1 + 594 ∧ (∀ a, a < 7 ∨ 13 < a → S'.2.2 a = S.2.2 a) ∧ hsO S') := by
  refine ks_of (by decide) rfl rfl (Nat.le_of_ble_eq_true rfl) ?_
  show ks_X l G mX6_init (d + 1) 0 [(0, .ref 7)] [] S _
  refine ks_aload_n dX6_init_0 rfl rfl ?_
  refine ks_objInit kx_80 kx_43 kx_44 (by omega) (by decide) dX6_init_1 rfl ?_
  refine ks_aload_n dX6_init_4 rfl rfl ?_
  refine ks_bipush (x := nI 8) dX6_init_5 (by decide) rfl ?_
  refine ks_newNx (N := 8) (x := 8) hS1 kx_100 (by decide) (by decide) dX6_init_7 rfl (fun T1 q1 => ?_)
  refine ks_putF (T := TX6) (kf := 0) kx_81 rfl rfl rfl in_X6 tyX6_ok nmX6 cl_X6 (by decide) ((q1.2.2.2 _ (by decide)).trans hb) (Nat.le_of_ble_eq_true rfl) rfl rfl rfl rfl dX6_init_9 rfl ?_
  refine ks_aload_n dX6_init_12 rfl rfl ?_
  refine ks_bipush (x := nI 64) dX6_init_13 (by decide) rfl ?_
  refine ks_newNx (N := 64) (x := 9) q1.1 kx_100 (by decide) (by decide) dX6_init_15 rfl (fun T2 q2 => ?_)
  refine ks_putF (T := TX6) (kf := 1) kx_82 rfl rfl rfl in_X6 tyX6_ok nmX6 cl_X6 (by decide) ((q2.2.2.2 _ (by decide)).trans (ks_set_same _ _ _)) (Nat.le_of_ble_eq_true rfl) rfl rfl rfl rfl dX6_init_17 rfl ?_
  refine ks_aload_n dX6_init_20 rfl rfl ?_
  refine ks_bipush (x := nI 10) dX6_init_21 (by decide) rfl ?_
  refine ks_newNx (N := 10) (x := 10) q2.1 kx_100 (by decide) (by decide) dX6_init_23 rfl (fun T3 q3 => ?_)
  refine ks_putF (T := TX6) (kf := 2) kx_83 rfl rfl rfl in_X6 tyX6_ok nmX6 cl_X6 (by decide) ((q3.2.2.2 _ (by decide)).trans (ks_set_same _ _ _)) (Nat.le_of_ble_eq_true rfl) rfl rfl rfl rfl dX6_init_25 rfl ?_
  refine ks_aload_n dX6_init_28 rfl rfl ?_
  refine ks_bipush (x := nI 64) dX6_init_29 (by decide) rfl ?_
  refine ks_newBx (N := 64) (x := 11) q3.1 kx_74 (by decide) (by decide) dX6_init_31 rfl (fun T4 q4 => ?_)
  refine ks_putF (T := TX6) (kf := 3) kx_84 rfl rfl rfl in_X6 tyX6_ok nmX6 cl_X6 (by decide) ((q4.2.2.2 _ (by decide)).trans (ks_set_same _ _ _)) (Nat.le_of_ble_eq_true rfl) rfl rfl rfl rfl dX6_init_33 rfl ?_
  refine ks_aload_n dX6_init_36 rfl rfl ?_
  refine ks_bipush (x := nI 32) dX6_init_37 (by decide) rfl ?_
  refine ks_newBx (N := 32) (x := 12) q4.1 kx_74 (by decide) (by decide) dX6_init_39 rfl (fun T5 q5 => ?_)
  refine ks_putF (T := TX6) (kf := 4) kx_85 rfl rfl rfl in_X6 tyX6_ok nmX6 cl_X6 (by decide) ((q5.2.2.2 _ (by decide)).trans (ks_set_same _ _ _)) (Nat.le_of_ble_eq_true rfl) rfl rfl rfl rfl dX6_init_41 rfl ?_
  refine ks_aload_n dX6_init_44 rfl rfl ?_
  refine ks_sipush (x := nI 416) dX6_init_45 (by decide) rfl ?_
  refine ks_newBx (N := 416) (x := 13) q5.1 kx_74 (by decide) (by decide) dX6_init_48 rfl (fun T6 q6 => ?_)
  refine ks_putF (T := TX6) (kf := 5) kx_86 rfl rfl rfl in_X6 tyX6_ok nmX6 cl_X6 (by decide) ((q6.2.2.2 _ (by decide)).trans (ks_set_same _ _ _)) (Nat.le_of_ble_eq_true rfl) rfl rfl rfl rfl dX6_init_50 rfl ?_
  refine ks_ret rfl dX6_init_53 ?_
  have e1 : T1.2.1 = S.2.1 + 8 := q1.2.1
  have e2 : T2.2.1 = T1.2.1 + 64 := q2.2.1
  have e3 : T3.2.1 = T2.2.1 + 10 := q3.2.1
  have e4 : T4.2.1 = T3.2.1 + 64 := q4.2.1
  have e5 : T5.2.1 = T4.2.1 + 32 := q5.2.1
  have e6 : T6.2.1 = T5.2.1 + 416 := q6.2.1
  refine ⟨rfl, q6.1, by show T6.2.1 = _; omega, fun a9 ha => ((ks_set_ne _ _ (by omega)).trans ((q6.2.2.2 _ (by omega)).trans ((ks_set_ne _ _ (by omega)).trans ((q5.2.2.2 _ (by omega)).trans ((ks_set_ne _ _ (by omega)).trans ((q4.2.2.2 _ (by omega)).trans ((ks_set_ne _ _ (by omega)).trans ((q3.2.2.2 _ (by omega)).trans ((ks_set_ne _ _ (by omega)).trans ((q2.2.2.2 _ (by omega)).trans ((ks_set_ne _ _ (by omega)).trans ((q1.2.2.2 _ (by omega)).trans rfl)))))))))))), (ks_set_same _ _ _), ⟨_, ((ks_set_ne _ _ (by decide)).trans ((q6.2.2.2 _ (by decide)).trans ((ks_set_ne _ _ (by decide)).trans ((q5.2.2.2 _ (by decide)).trans ((ks_set_ne _ _ (by decide)).trans ((q4.2.2.2 _ (by decide)).trans ((ks_set_ne _ _ (by decide)).trans ((q3.2.2.2 _ (by decide)).trans ((ks_set_ne _ _ (by decide)).trans ((q2.2.2.2 _ (by decide)).trans ((ks_set_ne _ _ (by decide)).trans q1.2.2.1)))))))))))⟩, ⟨_, ((ks_set_ne _ _ (by decide)).trans ((q6.2.2.2 _ (by decide)).trans ((ks_set_ne _ _ (by decide)).trans ((q5.2.2.2 _ (by decide)).trans ((ks_set_ne _ _ (by decide)).trans ((q4.2.2.2 _ (by decide)).trans ((ks_set_ne _ _ (by decide)).trans ((q3.2.2.2 _ (by decide)).trans ((ks_set_ne _ _ (by decide)).trans q2.2.2.1)))))))))⟩, ⟨_, ((ks_set_ne _ _ (by decide)).trans ((q6.2.2.2 _ (by decide)).trans ((ks_set_ne _ _ (by decide)).trans ((q5.2.2.2 _ (by decide)).trans ((ks_set_ne _ _ (by decide)).trans ((q4.2.2.2 _ (by decide)).trans ((ks_set_ne _ _ (by decide)).trans q3.2.2.1)))))))⟩, ⟨_, kO_zero, ((ks_set_ne _ _ (by decide)).trans ((q6.2.2.2 _ (by decide)).trans ((ks_set_ne _ _ (by decide)).trans ((q5.2.2.2 _ (by decide)).trans ((ks_set_ne _ _ (by decide)).trans q4.2.2.1)))))⟩, ⟨_, kO_zero, ((ks_set_ne _ _ (by decide)).trans ((q6.2.2.2 _ (by decide)).trans ((ks_set_ne _ _ (by decide)).trans q5.2.2.1)))⟩, ⟨_, kO_zero, ((ks_set_ne _ _ (by decide)).trans q6.2.2.1)⟩⟩
set_option maxRecDepth 100000 in
set_option maxHeartbeats 800000 in
theorem c_tv_init {l : Launch} {G : ks_G} {d : Nat} {S : ks_S} (hb : S.2.2 20 = some (.inr (13, [.null, .int (nI 0), .int (nI 0), .null, .null, .null, .null, .null, .null, .int (nI 0), .int (nI 0)]))) (hS1 : S.1 = 21) : ks_P l G yX10_init mX10_init (d + 1) [.ref 20] S (fun z S' => z = none ∧ S'.1 = 27 ∧ S'.2.1 = S.2.1 + 660 ∧ (∀ a, a < 20 ∨ 26 < a → S'.2.2 a = S.2.2 a) ∧ tvR S') := by
  refine ks_of (by decide) rfl rfl (Nat.le_of_ble_eq_true rfl) ?_
  show ks_X l G mX10_init (d + 1) 0 [(0, .ref 20)] [] S _
  refine ks_aload_n dX10_init_0 rfl rfl ?_
  refine ks_objInit kx_553 kx_43 kx_44 (by omega) (by decide) dX10_init_1 rfl ?_
  refine ks_aload_n dX10_init_4 rfl rfl ?_
  refine ks_bipush (x := nI 40) dX10_init_5 (by decide) rfl ?_
  refine ks_newNx (N := 40) (x := 21) hS1 kx_100 (by decide) (by decide) dX10_init_7 rfl (fun T1 q1 => ?_)
  refine ks_putF (T := TX10) (kf := 3) kx_561 rfl rfl rfl in_X10 tyX10_ok nmX10 cl_X10 (by decide) ((q1.2.2.2 _ (by decide)).trans hb) (Nat.le_of_ble_eq_true rfl) rfl rfl rfl rfl dX10_init_9 rfl ?_
  refine ks_aload_n dX10_init_12 rfl rfl ?_
  refine ks_bipush (x := nI 40) dX10_init_13 (by decide) rfl ?_
  refine ks_newNx (N := 40) (x := 22) q1.1 kx_100 (by decide) (by decide) dX10_init_15 rfl (fun T2 q2 => ?_)
  refine ks_putF (T := TX10) (kf := 4) kx_563 rfl rfl rfl in_X10 tyX10_ok nmX10 cl_X10 (by decide) ((q2.2.2.2 _ (by decide)).trans (ks_set_same _ _ _)) (Nat.le_of_ble_eq_true rfl) rfl rfl rfl rfl dX10_init_17 rfl ?_
  refine ks_aload_n dX10_init_20 rfl rfl ?_
  refine ks_bipush (x := nI 40) dX10_init_21 (by decide) rfl ?_
  refine ks_newNx (N := 40) (x := 23) q2.1 kx_100 (by decide) (by decide) dX10_init_23 rfl (fun T3 q3 => ?_)
  refine ks_putF (T := TX10) (kf := 5) kx_565 rfl rfl rfl in_X10 tyX10_ok nmX10 cl_X10 (by decide) ((q3.2.2.2 _ (by decide)).trans (ks_set_same _ _ _)) (Nat.le_of_ble_eq_true rfl) rfl rfl rfl rfl dX10_init_25 rfl ?_
  refine ks_aload_n dX10_init_28 rfl rfl ?_
  refine ks_sipush (x := nI 180) dX10_init_29 (by decide) rfl ?_
  refine ks_newNx (N := 180) (x := 24) q3.1 kx_100 (by decide) (by decide) dX10_init_32 rfl (fun T4 q4 => ?_)
  refine ks_putF (T := TX10) (kf := 6) kx_567 rfl rfl rfl in_X10 tyX10_ok nmX10 cl_X10 (by decide) ((q4.2.2.2 _ (by decide)).trans (ks_set_same _ _ _)) (Nat.le_of_ble_eq_true rfl) rfl rfl rfl rfl dX10_init_34 rfl ?_
  refine ks_aload_n dX10_init_37 rfl rfl ?_
  refine ks_sipush (x := nI 180) dX10_init_38 (by decide) rfl ?_
  refine ks_newNx (N := 180) (x := 25) q4.1 kx_100 (by decide) (by decide) dX10_init_41 rfl (fun T5 q5 => ?_)
  refine ks_putF (T := TX10) (kf := 7) kx_569 rfl rfl rfl in_X10 tyX10_ok nmX10 cl_X10 (by decide) ((q5.2.2.2 _ (by decide)).trans (ks_set_same _ _ _)) (Nat.le_of_ble_eq_true rfl) rfl rfl rfl rfl dX10_init_43 rfl ?_
  refine ks_aload_n dX10_init_46 rfl rfl ?_
  refine ks_sipush (x := nI 180) dX10_init_47 (by decide) rfl ?_
  refine ks_newNx (N := 180) (x := 26) q5.1 kx_100 (by decide) (by decide) dX10_init_50 rfl (fun T6 q6 => ?_)
  refine ks_putF (T := TX10) (kf := 8) kx_570 rfl rfl rfl in_X10 tyX10_ok nmX10 cl_X10 (by decide) ((q6.2.2.2 _ (by decide)).trans (ks_set_same _ _ _)) (Nat.le_of_ble_eq_true rfl) rfl rfl rfl rfl dX10_init_52 rfl ?_
  refine ks_ret rfl dX10_init_55 ?_
  have e1 : T1.2.1 = S.2.1 + 40 := q1.2.1
  have e2 : T2.2.1 = T1.2.1 + 40 := q2.2.1
  have e3 : T3.2.1 = T2.2.1 + 40 := q3.2.1
  have e4 : T4.2.1 = T3.2.1 + 180 := q4.2.1
  have e5 : T5.2.1 = T4.2.1 + 180 := q5.2.1
  have e6 : T6.2.1 = T5.2.1 + 180 := q6.2.1
  refine ⟨rfl, q6.1, by show T6.2.1 = _; omega, fun a9 ha => ((ks_set_ne _ _ (by omega)).trans ((q6.2.2.2 _ (by omega)).trans ((ks_set_ne _ _ (by omega)).trans ((q5.2.2.2 _ (by omega)).trans ((ks_set_ne _ _ (by omega)).trans ((q4.2.2.2 _ (by omega)).trans ((ks_set_ne _ _ (by omega)).trans ((q3.2.2.2 _ (by omega)).trans ((ks_set_ne _ _ (by omega)).trans ((q2.2.2.2 _ (by omega)).trans ((ks_set_ne _ _ (by omega)).trans ((q1.2.2.2 _ (by omega)).trans rfl)))))))))))), _, _, _, _, _, _, _, _, _, _, _, (ks_set_same _ _ _), ((ks_set_ne _ _ (by decide)).trans ((q6.2.2.2 _ (by decide)).trans ((ks_set_ne _ _ (by decide)).trans ((q5.2.2.2 _ (by decide)).trans ((ks_set_ne _ _ (by decide)).trans ((q4.2.2.2 _ (by decide)).trans ((ks_set_ne _ _ (by decide)).trans ((q3.2.2.2 _ (by decide)).trans ((ks_set_ne _ _ (by decide)).trans ((q2.2.2.2 _ (by decide)).trans ((ks_set_ne _ _ (by decide)).trans q1.2.2.1))))))))))), ((ks_set_ne _ _ (by decide)).trans ((q6.2.2.2 _ (by decide)).trans ((ks_set_ne _ _ (by decide)).trans ((q5.2.2.2 _ (by decide)).trans ((ks_set_ne _ _ (by decide)).trans ((q4.2.2.2 _ (by decide)).trans ((ks_set_ne _ _ (by decide)).trans ((q3.2.2.2 _ (by decide)).trans ((ks_set_ne _ _ (by decide)).trans q2.2.2.1))))))))), ((ks_set_ne _ _ (by decide)).trans ((q6.2.2.2 _ (by decide)).trans ((ks_set_ne _ _ (by decide)).trans ((q5.2.2.2 _ (by decide)).trans ((ks_set_ne _ _ (by decide)).trans ((q4.2.2.2 _ (by decide)).trans ((ks_set_ne _ _ (by decide)).trans q3.2.2.1))))))), ((ks_set_ne _ _ (by decide)).trans ((q6.2.2.2 _ (by decide)).trans ((ks_set_ne _ _ (by decide)).trans ((q5.2.2.2 _ (by decide)).trans ((ks_set_ne _ _ (by decide)).trans q4.2.2.1))))), ((ks_set_ne _ _ (by decide)).trans ((q6.2.2.2 _ (by decide)).trans ((ks_set_ne _ _ (by decide)).trans q5.2.2.1))), ((ks_set_ne _ _ (by decide)).trans q6.2.2.1)⟩
set_option maxRecDepth 100000 in
set_option maxHeartbeats 800000 in
theorem c_tg_init {l : Launch} {G : ks_G} {d : Nat} {S : ks_S} (hb : S.2.2 44 = some (.inr (12, [.null, .null, .null]))) (hS1 : S.1 = 45) : ks_P l G yX9_init mX9_init (d + 1) [.ref 44] S (fun z S' => z = none ∧ S'.1 = 48 ∧ S'.2.1 = S.2.1 + 102 ∧ (∀ a, a < 44 ∨ 47 < a → S'.2.2 a = S.2.2 a) ∧ tg_ok S' 0) := by
  refine ks_of (by decide) rfl rfl (Nat.le_of_ble_eq_true rfl) ?_
  show ks_X l G mX9_init (d + 1) 0 [(0, .ref 44)] [] S _
  refine ks_aload_n dX9_init_0 rfl rfl ?_
  refine ks_objInit kx_718 kx_43 kx_44 (by omega) (by decide) dX9_init_1 rfl ?_
  refine ks_aload_n dX9_init_4 rfl rfl ?_
  refine ks_bipush (x := nI 34) dX9_init_5 (by decide) rfl ?_
  refine ks_newBx (N := 34) (x := 45) hS1 kx_74 (by decide) (by decide) dX9_init_7 rfl (fun T1 q1 => ?_)
  refine ks_putF (T := TX9) (kf := 0) kx_719 rfl rfl rfl in_X9 tyX9_ok nmX9 cl_X9 (by decide) ((q1.2.2.2 _ (by decide)).trans hb) (Nat.le_of_ble_eq_true rfl) rfl rfl rfl rfl dX9_init_9 rfl ?_
  refine ks_aload_n dX9_init_12 rfl rfl ?_
  refine ks_bipush (x := nI 34) dX9_init_13 (by decide) rfl ?_
  refine ks_newBx (N := 34) (x := 46) q1.1 kx_74 (by decide) (by decide) dX9_init_15 rfl (fun T2 q2 => ?_)
  refine ks_putF (T := TX9) (kf := 1) kx_720 rfl rfl rfl in_X9 tyX9_ok nmX9 cl_X9 (by decide) ((q2.2.2.2 _ (by decide)).trans (ks_set_same _ _ _)) (Nat.le_of_ble_eq_true rfl) rfl rfl rfl rfl dX9_init_17 rfl ?_
  refine ks_aload_n dX9_init_20 rfl rfl ?_
  refine ks_bipush (x := nI 34) dX9_init_21 (by decide) rfl ?_
  refine ks_newBx (N := 34) (x := 47) q2.1 kx_74 (by decide) (by decide) dX9_init_23 rfl (fun T3 q3 => ?_)
  refine ks_putF (T := TX9) (kf := 2) kx_721 rfl rfl rfl in_X9 tyX9_ok nmX9 cl_X9 (by decide) ((q3.2.2.2 _ (by decide)).trans (ks_set_same _ _ _)) (Nat.le_of_ble_eq_true rfl) rfl rfl rfl rfl dX9_init_25 rfl ?_
  refine ks_ret rfl dX9_init_28 ?_
  have e1 : T1.2.1 = S.2.1 + 34 := q1.2.1
  have e2 : T2.2.1 = T1.2.1 + 34 := q2.2.1
  have e3 : T3.2.1 = T2.2.1 + 34 := q3.2.1
  refine ⟨rfl, q3.1, by show T3.2.1 = _; omega, fun a9 ha => ((ks_set_ne _ _ (by omega)).trans ((q3.2.2.2 _ (by omega)).trans ((ks_set_ne _ _ (by omega)).trans ((q2.2.2.2 _ (by omega)).trans ((ks_set_ne _ _ (by omega)).trans ((q1.2.2.2 _ (by omega)).trans rfl)))))), (ks_set_same _ _ _), ⟨_, kO_zero, ((ks_set_ne _ _ (by decide)).trans ((q3.2.2.2 _ (by decide)).trans ((ks_set_ne _ _ (by decide)).trans ((q2.2.2.2 _ (by decide)).trans ((ks_set_ne _ _ (by decide)).trans q1.2.2.1))))), dg_zero 34⟩, ⟨_, kO_zero, ((ks_set_ne _ _ (by decide)).trans ((q3.2.2.2 _ (by decide)).trans ((ks_set_ne _ _ (by decide)).trans q2.2.2.1)))⟩, ⟨_, kO_zero, ((ks_set_ne _ _ (by decide)).trans q3.2.2.1)⟩⟩
set_option maxRecDepth 100000 in
set_option maxHeartbeats 800000 in
theorem c_st_init {l : Launch} {G : ks_G} {d : Nat} {S : ks_S} (hb : S.2.2 29 = some (.inr (11, [.null, .null, .null, .int (nI 0), .int (nI 0), .int (nI 0), .null, .null, .null]))) (hS1 : S.1 = 30) : ks_P l G yX8_init mX8_init (d + 1) [.ref 29] S (fun z S' => z = none ∧ S'.1 = 36 ∧ S'.2.1 = S.2.1 + 28120 ∧ (∀ a, a < 29 ∨ 35 < a → S'.2.2 a = S.2.2 a) ∧ st_ok S' [] [] 0) := by
  refine ks_of (by decide) rfl rfl (Nat.le_of_ble_eq_true rfl) ?_
  show ks_X l G mX8_init (d + 1) 0 [(0, .ref 29)] [] S _
  refine ks_aload_n dX8_init_0 rfl rfl ?_
  refine ks_objInit kx_607 kx_43 kx_44 (by omega) (by decide) dX8_init_1 rfl ?_
  refine ks_aload_n dX8_init_4 rfl rfl ?_
  refine ks_sipush (x := nI 24096) dX8_init_5 (by decide) rfl ?_
  refine ks_newBx (N := 24096) (x := 30) hS1 kx_74 (by decide) (by decide) dX8_init_8 rfl (fun T1 q1 => ?_)
  refine ks_putF (T := TX8) (kf := 0) kx_608 rfl rfl rfl in_X8 tyX8_ok nmX8 cl_X8 (by decide) ((q1.2.2.2 _ (by decide)).trans hb) (Nat.le_of_ble_eq_true rfl) rfl rfl rfl rfl dX8_init_10 rfl ?_
  refine ks_aload_n dX8_init_13 rfl rfl ?_
  refine ks_sipush (x := nI 1004) dX8_init_14 (by decide) rfl ?_
  refine ks_newNx (N := 1004) (x := 31) q1.1 kx_100 (by decide) (by decide) dX8_init_17 rfl (fun T2 q2 => ?_)
  refine ks_putF (T := TX8) (kf := 1) kx_610 rfl rfl rfl in_X8 tyX8_ok nmX8 cl_X8 (by decide) ((q2.2.2.2 _ (by decide)).trans (ks_set_same _ _ _)) (Nat.le_of_ble_eq_true rfl) rfl rfl rfl rfl dX8_init_19 rfl ?_
  refine ks_aload_n dX8_init_22 rfl rfl ?_
  refine ks_sipush (x := nI 1004) dX8_init_23 (by decide) rfl ?_
  refine ks_newNx (N := 1004) (x := 32) q2.1 kx_100 (by decide) (by decide) dX8_init_26 rfl (fun T3 q3 => ?_)
  refine ks_putF (T := TX8) (kf := 2) kx_612 rfl rfl rfl in_X8 tyX8_ok nmX8 cl_X8 (by decide) ((q3.2.2.2 _ (by decide)).trans (ks_set_same _ _ _)) (Nat.le_of_ble_eq_true rfl) rfl rfl rfl rfl dX8_init_28 rfl ?_
  refine ks_aload_n dX8_init_31 rfl rfl ?_
  refine ks_sipush (x := nI 1004) dX8_init_32 (by decide) rfl ?_
  refine ks_newNx (N := 1004) (x := 33) q3.1 kx_100 (by decide) (by decide) dX8_init_35 rfl (fun T4 q4 => ?_)
  refine ks_putF (T := TX8) (kf := 6) kx_618 rfl rfl rfl in_X8 tyX8_ok nmX8 cl_X8 (by decide) ((q4.2.2.2 _ (by decide)).trans (ks_set_same _ _ _)) (Nat.le_of_ble_eq_true rfl) rfl rfl rfl rfl dX8_init_37 rfl ?_
  refine ks_aload_n dX8_init_40 rfl rfl ?_
  refine ks_sipush (x := nI 1004) dX8_init_41 (by decide) rfl ?_
  refine ks_newNx (N := 1004) (x := 34) q4.1 kx_100 (by decide) (by decide) dX8_init_44 rfl (fun T5 q5 => ?_)
  refine ks_putF (T := TX8) (kf := 7) kx_619 rfl rfl rfl in_X8 tyX8_ok nmX8 cl_X8 (by decide) ((q5.2.2.2 _ (by decide)).trans (ks_set_same _ _ _)) (Nat.le_of_ble_eq_true rfl) rfl rfl rfl rfl dX8_init_46 rfl ?_
  refine ks_aload_n dX8_init_49 rfl rfl ?_
  refine ks_bipush (x := nI 8) dX8_init_50 (by decide) rfl ?_
  refine ks_newBx (N := 8) (x := 35) q5.1 kx_74 (by decide) (by decide) dX8_init_52 rfl (fun T6 q6 => ?_)
  refine ks_putF (T := TX8) (kf := 8) kx_620 rfl rfl rfl in_X8 tyX8_ok nmX8 cl_X8 (by decide) ((q6.2.2.2 _ (by decide)).trans (ks_set_same _ _ _)) (Nat.le_of_ble_eq_true rfl) rfl rfl rfl rfl dX8_init_54 rfl ?_
  refine ks_ret rfl dX8_init_57 ?_
  have e1 : T1.2.1 = S.2.1 + 24096 := q1.2.1
  have e2 : T2.2.1 = T1.2.1 + 1004 := q2.2.1
  have e3 : T3.2.1 = T2.2.1 + 1004 := q3.2.1
  have e4 : T4.2.1 = T3.2.1 + 1004 := q4.2.1
  have e5 : T5.2.1 = T4.2.1 + 1004 := q5.2.1
  have e6 : T6.2.1 = T5.2.1 + 8 := q6.2.1
  refine ⟨rfl, q6.1, by show T6.2.1 = _; omega, fun a9 ha => ((ks_set_ne _ _ (by omega)).trans ((q6.2.2.2 _ (by omega)).trans ((ks_set_ne _ _ (by omega)).trans ((q5.2.2.2 _ (by omega)).trans ((ks_set_ne _ _ (by omega)).trans ((q4.2.2.2 _ (by omega)).trans ((ks_set_ne _ _ (by omega)).trans ((q3.2.2.2 _ (by omega)).trans ((ks_set_ne _ _ (by omega)).trans ((q2.2.2.2 _ (by omega)).trans ((ks_set_ne _ _ (by omega)).trans ((q1.2.2.2 _ (by omega)).trans rfl)))))))))))), 0, 0, _, _, _, _, _, _, ⟨(ks_set_same _ _ _), ((ks_set_ne _ _ (by decide)).trans ((q6.2.2.2 _ (by decide)).trans ((ks_set_ne _ _ (by decide)).trans ((q5.2.2.2 _ (by decide)).trans ((ks_set_ne _ _ (by decide)).trans ((q4.2.2.2 _ (by decide)).trans ((ks_set_ne _ _ (by decide)).trans ((q3.2.2.2 _ (by decide)).trans ((ks_set_ne _ _ (by decide)).trans ((q2.2.2.2 _ (by decide)).trans ((ks_set_ne _ _ (by decide)).trans q1.2.2.1))))))))))), ((ks_set_ne _ _ (by decide)).trans ((q6.2.2.2 _ (by decide)).trans ((ks_set_ne _ _ (by decide)).trans ((q5.2.2.2 _ (by decide)).trans ((ks_set_ne _ _ (by decide)).trans ((q4.2.2.2 _ (by decide)).trans ((ks_set_ne _ _ (by decide)).trans ((q3.2.2.2 _ (by decide)).trans ((ks_set_ne _ _ (by decide)).trans q2.2.2.1))))))))), ((ks_set_ne _ _ (by decide)).trans ((q6.2.2.2 _ (by decide)).trans ((ks_set_ne _ _ (by decide)).trans ((q5.2.2.2 _ (by decide)).trans ((ks_set_ne _ _ (by decide)).trans ((q4.2.2.2 _ (by decide)).trans ((ks_set_ne _ _ (by decide)).trans q3.2.2.1))))))), ((ks_set_ne _ _ (by decide)).trans ((q6.2.2.2 _ (by decide)).trans ((ks_set_ne _ _ (by decide)).trans ((q5.2.2.2 _ (by decide)).trans ((ks_set_ne _ _ (by decide)).trans q4.2.2.1))))), ((ks_set_ne _ _ (by decide)).trans ((q6.2.2.2 _ (by decide)).trans ((ks_set_ne _ _ (by decide)).trans q5.2.2.1))), ((ks_set_ne _ _ (by decide)).trans q6.2.2.1), kO_zero, kO_zero, by decide, by decide, by decide, fun i hi => absurd hi (Nat.not_lt_zero i), fun i hi => absurd hi (Nat.not_lt_zero i)⟩, rfl, rfl⟩

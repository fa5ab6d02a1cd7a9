/-! NEW CELLS: rows with a name for the new one; Block's constructor -/
theorem kO_zero : kO (fun _ => 0) := fun _ => by show 0 < 256; decide
def ks_gr (S S2 : ks_S) (x N : Nat) (e : ks_E) : Prop := S2.1 = x + 1 ∧ S2.2.1 = S.2.1 + N ∧ S2.2.2 x = some e ∧ ∀ a, a ≠ x → S2.2.2 a = S.2.2 a
section KsNewX
variable {l : Launch} {G : ks_G} {M : ks_M} {d pc pc' : Nat} {lv : List (Nat × Value)} {st : List Value} {S : ks_S} {P : Option Value → ks_S → Prop} {N x : Nat}
theorem ks_newBx (hx : S.1 = x) (hw : Cond.arrayClass .byte ∈ lw_tbl) (hN : N < 1000000) (hB : x < ks_B) (hd : decode M.2.1 pc = .ok (.newarray .byte, 2)) (hp : pc + 2 = pc') (k : ∀ S2 : ks_S, ks_gr S S2 x N (kB N (fun _ => 0)) → ks_X l G M d pc' lv (.ref x :: st) S2 P) : ks_X l G M d pc lv (.int (nI N) :: st) S P := by
  subst hx
  exact ks_newB hw hN hB hd hp (k _ ⟨rfl, rfl, ks_add_new _ _ _, fun a ha => ks_add_ne _ _ _ ha⟩)
theorem ks_newNx (hx : S.1 = x) (hw : Cond.arrayClass .int ∈ lw_tbl) (hN : N < 1000000) (hB : x < ks_B) (hd : decode M.2.1 pc = .ok (.newarray .int, 2)) (hp : pc + 2 = pc') (k : ∀ S2 : ks_S, ks_gr S S2 x N (kN N (fun _ => 0)) → ks_X l G M d pc' lv (.ref x :: st) S2 P) : ks_X l G M d pc lv (.int (nI N) :: st) S P := by
  subst hx
  exact ks_newI hw hN hB hd hp (k _ ⟨rfl, rfl, ks_add_new _ _ _, fun a ha => ks_add_ne _ _ _ ha⟩)
theorem ks_newLx (hx : S.1 = x) (hw : Cond.arrayClass .long ∈ lw_tbl) (hN : N < 1000000) (hB : x < ks_B) (hd : decode M.2.1 pc = .ok (.newarray .long, 2)) (hp : pc + 2 = pc') (k : ∀ S2 : ks_S, ks_gr S S2 x N (kL N (fun _ => 0)) → ks_X l G M d pc' lv (.ref x :: st) S2 P) : ks_X l G M d pc lv (.int (nI N) :: st) S P := by
  subst hx
  exact ks_newJ hw hN hB hd hp (k _ ⟨rfl, rfl, ks_add_new _ _ _, fun a ha => ks_add_ne _ _ _ ha⟩)
theorem ks_newZx (hx : S.1 = x) (hw : Cond.arrayClass .boolean ∈ lw_tbl) (hN : N < 1000000) (hB : x < ks_B) (hd : decode M.2.1 pc = .ok (.newarray .boolean, 2)) (hp : pc + 2 = pc') (k : ∀ S2 : ks_S, ks_gr S S2 x N (kZ N (fun _ => false)) → ks_X l G M d pc' lv (.ref x :: st) S2 P) : ks_X l G M d pc lv (.int (nI N) :: st) S P := by
  subst hx
  exact ks_newZ hw hN hB hd hp (k _ ⟨rfl, rfl, ks_add_new _ _ _, fun a ha => ks_add_ne _ _ _ ha⟩)
theorem ks_newcx {ci ix : Nat} {C : String} {T : u_T} {ty0 : Nat → FieldType} {fs : List Value} (hx : S.1 = x) (hcl : Cond.classLink M.1 ix C ∈ lw_tbl) (hinst : Cond.instantiable C N ∈ lw_tbl) (hini : Cond.initialized C ∈ lw_tbl) (hin : ∀ w ∈ u_ws C T N, w ∈ lw_tbl ∧ goodWord w = true) (hty : ∀ k, k < N → parseFieldDescriptor (T k).2.2.1 = some (ty0 k)) (hc : vwCl[ci]? = some (C, T, N)) (hfs : ∀ j, j < N → defaultValue (ty0 j) = vp_V fs j) (hmap : fs.map (ks_v G) = fs) (hB : x < ks_B) (hd : decode M.2.1 pc = .ok (.new ix, 3)) (hp : pc + 3 = pc') (k : ∀ S2 : ks_S, ks_gr S S2 x N (.inr (ci, fs)) → ks_X l G M d pc' lv (.ref x :: st) S2 P) : ks_X l G M d pc lv st S P := by
  subst hx
  exact ks_newc hcl hinst hini hin hty hc hfs hmap hB hd hp (k _ ⟨rfl, rfl, ks_add_new _ _ _, fun a ha => ks_add_ne _ _ _ ha⟩)
end KsNewX
set_option maxRecDepth 100000 in
set_option maxHeartbeats 800000 in
theorem c_bk_init {l : Launch} {G : ks_G} {d : Nat} {S : ks_S} {b : Nat} (hb : S.2.2 b = some (.inr (3, [.null, .null, .null, .null, .int (nI 0), .int (nI 0), .int (nI 0), .int (nI 0), .long (lN 0), .int (ks_bo false), .null]))) (hS1 : S.1 = b + 1) (hBB : b + 5 < ks_B) (h56 : 56 ≤ b) : ks_P l G yX0_init mX0_init (d + 1) [.ref b] S (fun z S' => z = none ∧ S'.1 = b + 5 ∧ S'.2.1 = S.2.1 + 2029 ∧ (∀ a, a < b ∨ b + 4 < a → S'.2.2 a = S.2.2 a) ∧ bkX S' b (nI 0) (nI 0) (-1) (nI 0) (lN 0) false .null (fun _ => 0) (fun _ => 0) (fun _ => 0) (fun _ => 0)) := by
  refine ks_of (by decide) rfl rfl (Nat.le_of_ble_eq_true rfl) ?_
  show ks_X l G mX0_init (d + 1) 0 [(0, .ref b)] [] S _
  refine ks_aload_n dX0_init_0 rfl rfl ?_
  refine ks_objInit kx_934 kx_43 kx_44 (by omega) (by decide) dX0_init_1 rfl ?_
  refine ks_aload_n dX0_init_4 rfl rfl ?_
  refine ks_sipush (x := nI 1600) dX0_init_5 (by decide) rfl ?_
  refine ks_newBx (N := 1600) (x := b + 1) hS1 kx_74 (by decide) (by omega) dX0_init_8 rfl (fun T1 q1 => ?_)
  refine ks_putF (T := TX0) (kf := 0) kx_935 rfl rfl rfl in_X0 tyX0_ok nmX0 cl_X0 (by decide) ((q1.2.2.2 _ (by omega)).trans hb) (Nat.le_of_ble_eq_true rfl) rfl rfl rfl rfl dX0_init_10 rfl ?_
  refine ks_aload_n dX0_init_13 rfl rfl ?_
  refine ks_bipush (x := nI 13) dX0_init_14 (by decide) rfl ?_
  refine ks_newNx (N := 13) (x := b + 2) q1.1 kx_100 (by decide) (by omega) dX0_init_16 rfl (fun T2 q2 => ?_)
  refine ks_putF (T := TX0) (kf := 1) kx_937 rfl rfl rfl in_X0 tyX0_ok nmX0 cl_X0 (by decide) ((q2.2.2.2 _ (by omega)).trans (ks_set_same _ _ _)) (Nat.le_of_ble_eq_true rfl) rfl rfl rfl rfl dX0_init_18 rfl ?_
  refine ks_aload_n dX0_init_21 rfl rfl ?_
  refine ks_sipush (x := nI 384) dX0_init_22 (by decide) rfl ?_
  refine ks_newBx (N := 384) (x := b + 3) q2.1 kx_74 (by decide) (by omega) dX0_init_25 rfl (fun T3 q3 => ?_)
  refine ks_putF (T := TX0) (kf := 2) kx_939 rfl rfl rfl in_X0 tyX0_ok nmX0 cl_X0 (by decide) ((q3.2.2.2 _ (by omega)).trans (ks_set_same _ _ _)) (Nat.le_of_ble_eq_true rfl) rfl rfl rfl rfl dX0_init_27 rfl ?_
  refine ks_aload_n dX0_init_30 rfl rfl ?_
  refine ks_bipush (x := nI 32) dX0_init_31 (by decide) rfl ?_
  refine ks_newBx (N := 32) (x := b + 4) q3.1 kx_74 (by decide) (by omega) dX0_init_33 rfl (fun T4 q4 => ?_)
  refine ks_putF (T := TX0) (kf := 3) kx_942 rfl rfl rfl in_X0 tyX0_ok nmX0 cl_X0 (by decide) ((q4.2.2.2 _ (by omega)).trans (ks_set_same _ _ _)) (Nat.le_of_ble_eq_true rfl) rfl rfl rfl rfl dX0_init_35 rfl ?_
  refine ks_aload_n dX0_init_38 rfl rfl ?_
  refine ks_iconst (x := (-1)) dX0_init_39 (by decide) rfl ?_
  refine ks_putf (T := TX0) (kf := 6) kx_951 rfl in_X0 tyX0_ok nmX0 cl_X0 (by decide) (ks_set_same _ _ _) (Nat.le_of_ble_eq_true rfl) rfl rfl rfl rfl dX0_init_40 rfl ?_
  refine ks_ret rfl dX0_init_43 ?_
  have e1 : T1.2.1 = S.2.1 + 1600 := q1.2.1
  have e2 : T2.2.1 = T1.2.1 + 13 := q2.2.1
  have e3 : T3.2.1 = T2.2.1 + 384 := q3.2.1
  have e4 : T4.2.1 = T3.2.1 + 32 := q4.2.1
  refine ⟨rfl, q4.1, by show T4.2.1 = _; omega, fun a9 ha => ((ks_set_ne _ _ (by omega)).trans ((ks_set_ne _ _ (by omega)).trans ((q4.2.2.2 _ (by omega)).trans ((ks_set_ne _ _ (by omega)).trans ((q3.2.2.2 _ (by omega)).trans ((ks_set_ne _ _ (by omega)).trans ((q2.2.2.2 _ (by omega)).trans ((ks_set_ne _ _ (by omega)).trans ((q1.2.2.2 _ (by omega)).trans rfl))))))))), (ks_set_same _ _ _), ((ks_set_ne _ _ (by omega)).trans ((ks_set_ne _ _ (by omega)).trans ((q4.2.2.2 _ (by omega)).trans ((ks_set_ne _ _ (by omega)).trans ((q3.2.2.2 _ (by omega)).trans ((ks_set_ne _ _ (by omega)).trans ((q2.2.2.2 _ (by omega)).trans ((ks_set_ne _ _ (by omega)).trans q1.2.2.1)))))))), ((ks_set_ne _ _ (by omega)).trans ((ks_set_ne _ _ (by omega)).trans ((q4.2.2.2 _ (by omega)).trans ((ks_set_ne _ _ (by omega)).trans ((q3.2.2.2 _ (by omega)).trans ((ks_set_ne _ _ (by omega)).trans q2.2.2.1)))))), ((ks_set_ne _ _ (by omega)).trans ((ks_set_ne _ _ (by omega)).trans ((q4.2.2.2 _ (by omega)).trans ((ks_set_ne _ _ (by omega)).trans q3.2.2.1)))), ((ks_set_ne _ _ (by omega)).trans ((ks_set_ne _ _ (by omega)).trans q4.2.2.1)), kO_zero, kO_zero, kO_zero, hBB, h56⟩

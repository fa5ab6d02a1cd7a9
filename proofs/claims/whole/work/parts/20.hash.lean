/-! HASHER: twice, hash160, root, made -/
theorem sh_msg_congr {m m' : Nat → Nat} {n : Nat} (h : ∀ k, k < n → m k = m' k) : sh_msg m n = sh_msg m' n := by
  funext j
  unfold sh_msg
  by_cases e : j < n
  · rw [if_pos e, if_pos e, h j e]
  · rw [if_neg e, if_neg e]
theorem sha_congr {m m' : Nat → Nat} {n : Nat} (h : ∀ k, k < n → m k = m' k) : sha_ m n = sha_ m' n := by
  unfold sha_
  rw [sh_msg_congr h]
theorem ripe_congr {m m' : Nat → Nat} {n : Nat} (h : ∀ k, k < n → m k = m' k) : ripe_ m n = ripe_ m' n := by
  unfold ripe_
  have e : rp_msg m n = rp_msg m' n := by
    funext j
    unfold rp_msg
    by_cases e : j < n
    · rw [if_pos e, if_pos e, h j e]
    · rw [if_neg e, if_neg e]
  rw [e]
def twice_ (m : Nat → Nat) (n : Nat) : Nat → Nat := sha_ (sha_ m n) 32
def h160_ (m : Nat → Nat) (n : Nat) : Nat → Nat := ripe_ (sha_ m n) 32
theorem kO_twice (m : Nat → Nat) (n : Nat) : kO (twice_ m n) := kO_sha _ _
theorem twice_congr {m m' : Nat → Nat} {n : Nat} (h : ∀ k, k < n → m k = m' k) : twice_ m n = twice_ m' n := by
  unfold twice_
  rw [sha_congr h]
theorem ks_pt_in (D g : Nat → Nat) (i q : Nat) {k : Nat} (hk : k < q) : ks_pt D g i q (i + k) = D k := by
  unfold ks_pt
  rw [if_pos (by omega), Nat.add_sub_cancel_left]
theorem kB_len {n m : Nat} {f g : Nat → Nat} (h : some (kB n f) = some (kB m g)) : n = m := congrArg (fun e : Option ks_E => match e with | some (.inl (_, n, _)) => n | _ => 0) h
theorem hs_nes {S : ks_S} {h st wo si la be tr : Nat} (hh : hs_ok S h st wo si la be tr) : h ≠ st ∧ h ≠ wo ∧ h ≠ si ∧ h ≠ la ∧ h ≠ be ∧ h ≠ tr ∧ st ≠ la ∧ st ≠ be ∧ st ≠ tr ∧ wo ≠ la ∧ wo ≠ be ∧ wo ≠ tr ∧ si ≠ la ∧ si ≠ be ∧ si ≠ tr := by
  obtain ⟨a, ⟨_, b⟩, ⟨_, c⟩, ⟨_, e⟩, ⟨_, _, f⟩, ⟨_, _, g⟩, ⟨_, _, i⟩⟩ := hh
  exact ⟨Ne.symm (ks_neO b a), Ne.symm (ks_neO c a), Ne.symm (ks_neO e a), Ne.symm (ks_neO f a), Ne.symm (ks_neO g a), Ne.symm (ks_neO i a), ks_neT b f (by decide), ks_neT b g (by decide), ks_neT b i (by decide), ks_neT c f (by decide), ks_neT c g (by decide), ks_neT c i (by decide), ks_neT e f (by decide), ks_neT e g (by decide), ks_neT e i (by decide)⟩
/-- a hasher stays one where its scratch is written, and a row of bytes -/
theorem hs_ok.of {S S' : ks_S} {h st wo si la be tr ou No : Nat} {go gn : Nat → Nat} (hh : hs_ok S h st wo si la be tr) (hne : hs_ne h st wo si la be tr) (hu : ks_up S S' [wo, st, si, la, ou]) (h1 : ∃ w2, S'.2.2 wo = some (kI 64 w2)) (h2 : ∃ F2, S'.2.2 st = some (kI 8 F2)) (h3 : ∃ s2, S'.2.2 si = some (kI 10 s2)) (h4 : ∃ g2, kO g2 ∧ S'.2.2 la = some (kB 64 g2)) (ho : S.2.2 ou = some (kB No go)) (ho2 : S'.2.2 ou = some (kB No gn)) (hgn : kO gn) : hs_ok S' h st wo si la be tr := by
  obtain ⟨n1, n2, n3, n4, n5, n6, n7, n8, n9, n10, n11, n12, n13, n14, n15⟩ := hs_nes hh
  obtain ⟨m1, m2, m3, m4, m5, m6, m7, m8, m9⟩ := hne
  obtain ⟨a, b, c, e, f, ⟨g1, k1, g⟩, ⟨g2, k2, i⟩⟩ := hh
  have hho : h ≠ ou := Ne.symm (ks_neO ho a)
  refine ⟨hu.at a (by simp [n1, n2, n3, n4, hho]), h2, h1, h3, h4, ?_, ?_⟩
  · by_cases e1 : be = ou
    · subst e1
      have e4 : No = 32 := kB_len (ho.symm.trans g)
      subst e4
      exact ⟨gn, hgn, ho2⟩
    · exact ⟨g1, k1, hu.at g (by simp [Ne.symm n8, Ne.symm n11, Ne.symm n14, Ne.symm m7, e1])⟩
  · by_cases e1 : tr = ou
    · subst e1
      have e4 : No = 416 := kB_len (ho.symm.trans i)
      subst e4
      exact ⟨gn, hgn, ho2⟩
    · exact ⟨g2, k2, hu.at i (by simp [Ne.symm n9, Ne.symm n12, Ne.symm n15, Ne.symm m8, e1])⟩
set_option maxRecDepth 100000 in
set_option maxHeartbeats 40000000 in
theorem c_shaH {l : Launch} {G : ks_G} {d : Nat} {S : ks_S} {h st wo si la be tr fr ou N No i oa n : Nat} {g go : Nat → Nat} (hh : hs_ok S h st wo si la be tr) (hne : hs_ne h st wo si la be tr) (hf : S.2.2 fr = some (kB N g)) (hg : kO g) (hi : i + n ≤ N) (hN : N < 2 ^ 28) (ho : S.2.2 ou = some (kB No go)) (hgo : kO go) (hoa : oa + 32 ≤ No) (hNo : No < 2 ^ 30) (hK : ks_stOK S) (n_la_fr : la ≠ fr) (n_la_ou : la ≠ ou) : ks_P l G yX6_sha mX6_sha (d + 3) [.ref h, .ref fr, .int (nI i), .int (nI n), .ref ou, .int (nI oa)] S (fun z S' => z = none ∧ ks_up S S' [wo, st, si, la, ou] ∧ hs_ok S' h st wo si la be tr ∧ S'.2.2 ou = some (kB No (ks_pt (sha_ (fun k => g (i + k)) n) go oa 32))) := by
  obtain ⟨n1, n2, n3, n4, n5, n6, n7, n8, n9, n10, n11, n12, n13, n14, n15⟩ := hs_nes hh
  obtain ⟨m1, m2, m3, m4, m5, m6, m7, m8, m9⟩ := id hne
  obtain ⟨a, ⟨F, b⟩, ⟨f, c⟩, ⟨fs, e⟩, ⟨gl, hgl, x⟩, y, z⟩ := id hh
  refine (c_sha a b c x hgl hf hg hi hN ho hoa hNo hK m1 m2 m4 n_la_fr n_la_ou).mono ?_
  intro r S' hr
  obtain ⟨q1, q2, q3, q4, q5, q6⟩ := hr
  have hu : ks_up S S' [wo, st, si, la, ou] := q2.mono (by simp)
  have q7 := q2.at e (by simp [Ne.symm m6, Ne.symm m5, n13, show si ≠ ou from ks_neT e ho (by decide)])
  exact ⟨q1, hu, hh.of hne hu q3 q4 ⟨fs, q7⟩ q5 ho q6 (kO_pt (kO_sha _ _) hgo _ _), q6⟩
set_option maxRecDepth 100000 in
set_option maxHeartbeats 40000000 in
theorem c_ripeH {l : Launch} {G : ks_G} {d : Nat} {S : ks_S} {h st wo si la be tr fr ou N No i oa n : Nat} {g go : Nat → Nat} (hh : hs_ok S h st wo si la be tr) (hne : hs_ne h st wo si la be tr) (hf : S.2.2 fr = some (kB N g)) (hg : kO g) (hi : i + n ≤ N) (hN : N < 2 ^ 28) (ho : S.2.2 ou = some (kB No go)) (hgo : kO go) (hoa : oa + 20 ≤ No) (hNo : No < 2 ^ 30) (hK : ks_stOK S) (n_la_fr : la ≠ fr) (n_la_ou : la ≠ ou) : ks_P l G yX6_ripe mX6_ripe (d + 3) [.ref h, .ref fr, .int (nI i), .int (nI n), .ref ou, .int (nI oa)] S (fun z S' => z = none ∧ ks_up S S' [wo, st, si, la, ou] ∧ hs_ok S' h st wo si la be tr ∧ S'.2.2 ou = some (kB No (ks_pt (ripe_ (fun k => g (i + k)) n) go oa 20))) := by
  obtain ⟨n1, n2, n3, n4, n5, n6, n7, n8, n9, n10, n11, n12, n13, n14, n15⟩ := hs_nes hh
  obtain ⟨m1, m2, m3, m4, m5, m6, m7, m8, m9⟩ := id hne
  obtain ⟨a, ⟨F, b⟩, ⟨f, c⟩, ⟨fs, e⟩, ⟨gl, hgl, x⟩, y, z⟩ := id hh
  refine (c_ripe a b c e x hgl hf hg hi hN ho hoa hNo hK m1 m2 m3 m4 m5 m6 n_la_fr n_la_ou).mono ?_
  intro r S' hr
  obtain ⟨q1, q2, q3, q8, q4, q5, q6⟩ := hr
  have hu : ks_up S S' [wo, st, si, la, ou] := q2.mono (by intro a ha; simp at ha ⊢; rcases ha with h | h | h | h | h <;> simp [h])
  exact ⟨q1, hu, hh.of hne hu q3 q4 q8 q5 ho q6 (kO_pt (kO_ripe _ _) hgo _ _), q6⟩
set_option maxRecDepth 100000 in
set_option maxHeartbeats 40000000 in
theorem c_twice {l : Launch} {G : ks_G} {d : Nat} {S : ks_S} {h st wo si la be tr fr ou N No i oa n : Nat} {g go : Nat → Nat} (hh : hs_ok S h st wo si la be tr) (hne : hs_ne h st wo si la be tr) (hf : S.2.2 fr = some (kB N g)) (hg : kO g) (hi : i + n ≤ N) (hN : N < 2 ^ 28) (ho : S.2.2 ou = some (kB No go)) (hgo : kO go) (hoa : oa + 32 ≤ No) (hNo : No < 2 ^ 30) (hK : ks_stOK S) (n_la_fr : la ≠ fr) (n_la_ou : la ≠ ou) (n_be_ou : be ≠ ou) : ks_P l G yX6_twice mX6_twice (d + 4) [.ref h, .ref fr, .int (nI i), .int (nI n), .ref ou, .int (nI oa)] S (fun z S' => z = none ∧ ks_up S S' [wo, st, si, la, be, ou] ∧ hs_ok S' h st wo si la be tr ∧ S'.2.2 ou = some (kB No (ks_pt (twice_ (fun k => g (i + k)) n) go oa 32))) := by
  obtain ⟨m1, m2, m3, m4, m5, m6, m7, m8, m9⟩ := id hne
  obtain ⟨a, -, -, -, -, ⟨gb, hgb, hb⟩, -⟩ := id hh
  obtain ⟨n1, n2, n3, n4, n5, n6, n7, n8, n9, n10, n11, n12, n13, n14, n15⟩ := hs_nes hh
  refine ks_of (by decide) rfl rfl (Nat.le_of_ble_eq_true rfl) ?_
  show ks_X l G mX6_twice (d + 4) 0 [(0, .ref h), (1, .ref fr), (2, .int (nI i)), (3, .int (nI n)), (4, .ref ou), (5, .int (nI oa))] [] S _
  refine ks_aload_n dX6_twice_0 rfl rfl ?_
  refine ks_aload_n dX6_twice_1 rfl rfl ?_
  refine ks_iload_n dX6_twice_2 rfl rfl ?_
  refine ks_iload_n dX6_twice_3 rfl rfl ?_
  refine ks_aload_n dX6_twice_4 rfl rfl ?_
  refine ks_getf (T := TX6) (kf := 4) kx_85 rfl in_X6 cl_X6 (by decide) a rfl dX6_twice_5 rfl ?_
  refine ks_iconst (x := 0) dX6_twice_8 (by decide) rfl ?_
  refine ks_callV (n := 5) (M' := mX6_sha) (c_shaH (d := d) (oa := 0) hh hne hf hg hi hN hb hgb (by decide) (by decide) hK n_la_fr m7) a cl_X6 rfl kx_880 kx_881 kx_882 kx_3 kx_883 (by decide +kernel) rfl (by decide) (Nat.le_of_ble_eq_true rfl) rfl dX6_twice_9 rfl (fun r1 S1 h1 => ?_)
  obtain ⟨rfl, hu, hh1, hb1⟩ := h1
  have ho1 := hu.at ho (by simp [show ou ≠ wo from fun e => by subst e; exact absurd rfl (ks_neT ho (hh.2.2.1.choose_spec) (by decide)), show ou ≠ st from fun e => by subst e; exact absurd rfl (ks_neT ho (hh.2.1.choose_spec) (by decide)), show ou ≠ si from fun e => by subst e; exact absurd rfl (ks_neT ho (hh.2.2.2.1.choose_spec) (by decide)), Ne.symm n_la_ou, Ne.symm n_be_ou])
  have hK1 : ks_stOK S1 := fun i q hq => hu.at (hK i q hq) (by obtain ⟨_, _, hl⟩ := hh.2.2.2.2.1; simp [show ks_B + i ≠ wo by omega, show ks_B + i ≠ st by omega, show ks_B + i ≠ si by omega, show ks_B + i ≠ la from ks_neT (hK i q hq) hl (by decide), show ks_B + i ≠ be from ks_neT (hK i q hq) hb (by decide)])
  have a1 := hh1.1
  refine ks_aload_n dX6_twice_12 rfl rfl ?_
  refine ks_aload_n dX6_twice_13 rfl rfl ?_
  refine ks_getf (T := TX6) (kf := 4) kx_85 rfl in_X6 cl_X6 (by decide) a1 rfl dX6_twice_14 rfl ?_
  refine ks_iconst (x := 0) dX6_twice_17 (by decide) rfl ?_
  refine ks_bipush (x := 32) dX6_twice_18 (by decide) rfl ?_
  refine ks_aload dX6_twice_20 rfl rfl ?_
  refine ks_iload dX6_twice_22 rfl rfl ?_
  refine ks_callV (n := 5) (M' := mX6_sha) (c_shaH (d := d) (i := 0) (n := 32) hh1 hne hb1 (kO_pt (kO_sha _ _) hgb _ _) (by decide) (by decide) ho1 hgo hoa hNo hK1 m7 n_la_ou) a1 cl_X6 rfl kx_880 kx_881 kx_882 kx_3 kx_883 (by decide +kernel) rfl (by decide) (Nat.le_of_ble_eq_true rfl) rfl dX6_twice_24 rfl (fun r2 S2 h2 => ?_)
  obtain ⟨rfl, hu2, hh2, ho2⟩ := h2
  refine ks_ret rfl dX6_twice_27 ?_
  refine ⟨rfl, (hu.mono (by intro x hx; simp at hx ⊢; rcases hx with h | h | h | h | h <;> simp [h])).trans (hu2.mono (by intro x hx; simp at hx ⊢; rcases hx with h | h | h | h | h <;> simp [h])), hh2, ?_⟩
  rw [ho2, sha_congr (n := 32) (fun k hk => ks_pt_in (sha_ (fun k => g (i + k)) n) gb 0 32 hk)]
  rfl
set_option maxRecDepth 100000 in
set_option maxHeartbeats 40000000 in
theorem c_hash160 {l : Launch} {G : ks_G} {d : Nat} {S : ks_S} {h st wo si la be tr fr ou N No i oa n : Nat} {g go : Nat → Nat} (hh : hs_ok S h st wo si la be tr) (hne : hs_ne h st wo si la be tr) (hf : S.2.2 fr = some (kB N g)) (hg : kO g) (hi : i + n ≤ N) (hN : N < 2 ^ 28) (ho : S.2.2 ou = some (kB No go)) (hgo : kO go) (hoa : oa + 20 ≤ No) (hNo : No < 2 ^ 30) (hK : ks_stOK S) (n_la_fr : la ≠ fr) (n_la_ou : la ≠ ou) (n_be_ou : be ≠ ou) : ks_P l G yX6_hash160 mX6_hash160 (d + 4) [.ref h, .ref fr, .int (nI i), .int (nI n), .ref ou, .int (nI oa)] S (fun z S' => z = none ∧ ks_up S S' [wo, st, si, la, be, ou] ∧ hs_ok S' h st wo si la be tr ∧ S'.2.2 ou = some (kB No (ks_pt (h160_ (fun k => g (i + k)) n) go oa 20))) := by
  obtain ⟨m1, m2, m3, m4, m5, m6, m7, m8, m9⟩ := id hne
  obtain ⟨a, -, -, -, -, ⟨gb, hgb, hb⟩, -⟩ := id hh
  obtain ⟨n1, n2, n3, n4, n5, n6, n7, n8, n9, n10, n11, n12, n13, n14, n15⟩ := hs_nes hh
  refine ks_of (by decide) rfl rfl (Nat.le_of_ble_eq_true rfl) ?_
  show ks_X l G mX6_hash160 (d + 4) 0 [(0, .ref h), (1, .ref fr), (2, .int (nI i)), (3, .int (nI n)), (4, .ref ou), (5, .int (nI oa))] [] S _
  refine ks_aload_n dX6_hash160_0 rfl rfl ?_
  refine ks_aload_n dX6_hash160_1 rfl rfl ?_
  refine ks_iload_n dX6_hash160_2 rfl rfl ?_
  refine ks_iload_n dX6_hash160_3 rfl rfl ?_
  refine ks_aload_n dX6_hash160_4 rfl rfl ?_
  refine ks_getf (T := TX6) (kf := 4) kx_85 rfl in_X6 cl_X6 (by decide) a rfl dX6_hash160_5 rfl ?_
  refine ks_iconst (x := 0) dX6_hash160_8 (by decide) rfl ?_
  refine ks_callV (n := 5) (M' := mX6_sha) (c_shaH (d := d) (oa := 0) hh hne hf hg hi hN hb hgb (by decide) (by decide) hK n_la_fr m7) a cl_X6 rfl kx_880 kx_881 kx_882 kx_3 kx_883 (by decide +kernel) rfl (by decide) (Nat.le_of_ble_eq_true rfl) rfl dX6_hash160_9 rfl (fun r1 S1 h1 => ?_)
  obtain ⟨rfl, hu, hh1, hb1⟩ := h1
  have ho1 := hu.at ho (by simp [show ou ≠ wo from fun e => by subst e; exact absurd rfl (ks_neT ho (hh.2.2.1.choose_spec) (by decide)), show ou ≠ st from fun e => by subst e; exact absurd rfl (ks_neT ho (hh.2.1.choose_spec) (by decide)), show ou ≠ si from fun e => by subst e; exact absurd rfl (ks_neT ho (hh.2.2.2.1.choose_spec) (by decide)), Ne.symm n_la_ou, Ne.symm n_be_ou])
  have hK1 : ks_stOK S1 := fun i q hq => hu.at (hK i q hq) (by obtain ⟨_, _, hl⟩ := hh.2.2.2.2.1; simp [show ks_B + i ≠ wo by omega, show ks_B + i ≠ st by omega, show ks_B + i ≠ si by omega, show ks_B + i ≠ la from ks_neT (hK i q hq) hl (by decide), show ks_B + i ≠ be from ks_neT (hK i q hq) hb (by decide)])
  have a1 := hh1.1
  refine ks_aload_n dX6_hash160_12 rfl rfl ?_
  refine ks_aload_n dX6_hash160_13 rfl rfl ?_
  refine ks_getf (T := TX6) (kf := 4) kx_85 rfl in_X6 cl_X6 (by decide) a1 rfl dX6_hash160_14 rfl ?_
  refine ks_iconst (x := 0) dX6_hash160_17 (by decide) rfl ?_
  refine ks_bipush (x := 32) dX6_hash160_18 (by decide) rfl ?_
  refine ks_aload dX6_hash160_20 rfl rfl ?_
  refine ks_iload dX6_hash160_22 rfl rfl ?_
  refine ks_callV (n := 5) (M' := mX6_ripe) (c_ripeH (d := d) (i := 0) (n := 32) hh1 hne hb1 (kO_pt (kO_sha _ _) hgb _ _) (by decide) (by decide) ho1 hgo hoa hNo hK1 m7 n_la_ou) a1 cl_X6 rfl kx_1222 kx_1223 kx_1224 kx_3 kx_1225 (by decide +kernel) rfl (by decide) (Nat.le_of_ble_eq_true rfl) rfl dX6_hash160_24 rfl (fun r2 S2 h2 => ?_)
  obtain ⟨rfl, hu2, hh2, ho2⟩ := h2
  refine ks_ret rfl dX6_hash160_27 ?_
  refine ⟨rfl, (hu.mono (by intro x hx; simp at hx ⊢; rcases hx with h | h | h | h | h <;> simp [h])).trans (hu2.mono (by intro x hx; simp at hx ⊢; rcases hx with h | h | h | h | h <;> simp [h])), hh2, ?_⟩
  rw [ho2, ripe_congr (n := 32) (fun k hk => ks_pt_in (sha_ (fun k => g (i + k)) n) gb 0 32 hk)]
  rfl

/-! THE LAW: from its entry to its loop -/
theorem fsB_c {D D' : Nat → dTx} (h : D 0 = D' 0) : fsB D = fsB D' := by
  have h1 : catT D 1 = catT D' 1 := by
    show [] ++ txL (D 0) = [] ++ txL (D' 0)
    rw [h]
  have h2 : bytL (drR 0 D 1) 0 32 = bytL (drR 0 D' 1) 0 32 := bytL_congr (fun k hk => by
    rw [Nat.zero_add]
    show (if 0 = 1 ∧ k = 0 then (1 + root_ (idG D) 1 0) % 256 else root_ (idG D) 1 k) = (if 0 = 1 ∧ k = 0 then (1 + root_ (idG D') 1 0) % 256 else root_ (idG D') 1 k)
    rw [if_neg (by omega), if_neg (by omega)]
    exact root_c (fun j hj => by
      unfold idG
      rw [show j / 32 = 0 by omega, h]) k hk)
  have h3 : fsM D = fsM D' := by
    unfold fsM drH
    rw [h1, h2]
  unfold fsB
  rw [h3]
/-- the first block on both sides -/
def fsW : Nat := 2 ^ 256 / (tg_num 545259519 + 1)
def fsL (M : List Nat) : List Nat := adC (fun _ => (284, M, 0, 0, fsW, false, none)) 0 0 (txP M 0).2.2.1 0 []
def Bc0 (M : List Nat) : Nat → Bk := fun _ => (284, M, 0, 0, fsW, false, some (289, fsL M))
def Br0 (M : List Nat) : Nat → Bk := fun i => (565, M, 0, 0, fsW, false, if i = 0 then some (0, []) else none)
theorem rqS.cB {S : ks_S} {V : Nat → Value} {F n best : Nat} {B B' : Nat → Bk} {C R : List Nat} {t : Nat} {D : Nat → dTx} {T : List Nat} {q : Nat} {dt : Int64} {rs : Nat} (h : rqS S V F n best B C R t D T q dt rs) (e : ∀ i, i < n → B' i = B i) : rqS S V F n best B' C R t D T q dt rs := by
  obtain ⟨h1, h2, ⟨⟨bf, h3, h4⟩, h5, h6⟩, h7, ⟨h8, h9, h10, h11⟩, ⟨h12, h13, h14, h15⟩, h16⟩ := h
  have rm : ∀ x, rmK n B x → rmK n B' x := fun x hx => ⟨hx.1, by rw [e _ hx.1]; exact hx.2.1, by rw [e _ hx.1]; exact hx.2.2⟩
  exact ⟨h1, h2, ⟨⟨bf, h3, fun i hi => by rw [e i hi]; exact h4 i hi⟩, fun i hi => by rw [e i hi]; exact h5 i hi, h6⟩, h7, ⟨h8, h9, h10, fun x hx => rm x (h11 x hx)⟩, ⟨h12, h13, h14, fun x hx => rm x (h15 x hx)⟩, h16⟩
set_option maxRecDepth 100000 in
set_option maxHeartbeats 1600000 in
theorem l_start {l : Launch} {G : ks_G} {hh : KH} {K : lwK} {L : Nat} {xs : Nat → Int32} {S : ks_S} {P9 : Option Value → ks_S → Prop} (htr : l.stackTraces = false) (hKA : lwKA K) (hKB : lwKB K) (hKC : lwKC K) (hm : lwM) (hJ : ∀ o c S, c ≤ 512 → lwI K o c S → opI l G K o c yL_judge mL_judge hL_judge yX16_judge mX16_judge [] S) (hK0 : ∀ Ds : Nat → dTx, Ds 0 = fsT → K 1 0 (Bc0 (fsB Ds)) (Br0 (fsB Ds)) [0]) (hsc : hh.2 = (L + 1, xs)) (hL : L ≤ 3072) (hP : ∀ o c S, c ≤ 513 → lwI K o c S → P9 (some (.int (nI 1))) S) (h0 : S.1 = 0) (hs : S.2.1 ≤ 100000) (hst : ks_stOK S) : ks_L l G hh mL_law 18 0 [(0, .ref ks_sc)] [] S P9 := by
  refine kl_newcx (ci := 14) (x := 0) (ty0 := tyX11) (fs := [.null, .null, .null, .null, .null, .null, .null, .null, .null, .null, .null, .null, .int (nI 0), .int (nI 0), .long (lN 0), .int (nI 0)]) h0 kx_37 kx_38 kx_1 in_X11 tyX11_ok cl_X11 (fun j hj => by rcases j with _ | _ | _ | _ | _ | _ | _ | _ | _ | _ | _ | _ | _ | _ | _ | _ | j <;> first | rfl | (exfalso; omega)) rfl (by unfold ks_B; decide) dL_law_0 rfl (fun T1 q1 => ?_)
  have s1 : T1.2.1 = S.2.1 + 16 := q1.2.1
  have st1 : ks_stOK T1 := hst.ag (fun a ha => q1.2.2.2 a (by unfold ks_B at ha; omega))
  refine kl_dup dL_law_3 rfl rfl ?_
  refine kl_callI (n := 0) (M' := mX11_init) (c_jd_init (d := 7) (B := fun _ => (0, [], 0, 0, 0, false, none)) (ks_GA_ok G) q1.2.2.1 q1.1 st1) rfl rfl kx_39 kx_40 kx_1 kx_41 (by decide +kernel) rfl (by decide) (Nat.le_of_ble_eq_true rfl) rfl dL_law_4 rfl (fun z2 S2 y2 => ?_)
  obtain ⟨rfl, n2, sl2, j0, stK, bT, bD, bW, mz, tv, tg, r43, r48, r49, r50, r51, r53, r54, r55, df, -, ⟨cc, chx⟩, chf⟩ := y2
  obtain ⟨Ds, eDs⟩ : ∃ Ds : Nat → dTx, Ds = va_up (fun _ => (lN 0, lN 0, [], [])) 0 fsT := ⟨_, rfl⟩
  obtain ⟨Mf, eMf⟩ : ∃ Mf, Mf = fsB Ds := ⟨_, rfl⟩
  rw [← eDs] at df chx chf
  rw [← eMf] at chx chf
  change chX S2 1 0 cc (lN 0) (Bc0 Mf) at chx
  change chF S2 1 (Bc0 Mf) none at chf
  have hkB : 200000 < ks_B := lw_B
  have hC2 : cqS S2 1 0 (Bc0 Mf) 0 0 (lN 1000600) 0 Ds [] := ⟨⟨j0, stK, bT, bD, bW⟩, ⟨mz, tv, tg⟩, ⟨r43, r48, r49, r50, r51, r53, r54, r55⟩, df, ⟨cc, lN 0, chx⟩, ⟨none, chf, fun i hi => ⟨⟨(by decide : 284 ≤ 284), Or.inl (by decide : 284 + 4 < 290)⟩, fun c hc => by
    have e : c = (289, fsL Mf) := (Option.some.inj hc).symm
    rw [e]
    exact ⟨(by decide : 284 ≤ 289), Or.inl (by decide : 289 < 290)⟩⟩, fun b hb => by cases hb⟩, ⟨by rw [n2]; decide, by rw [n2]; omega, fun i hi => ⟨by rw [n2]; exact (by decide : 284 + 5 ≤ 290), fun c hc => by
    have e : c = (289, fsL Mf) := (Option.some.inj hc).symm
    rw [e, n2]
    exact (by decide : 289 < 290)⟩⟩, rfl, ⟨fsL Mf, rfl⟩, by decide⟩
  refine kl_cl ?_
  have hC3 : cqS (ks_cl S2) 1 0 (Bc0 Mf) 0 0 (lN 1000600) 0 Ds [] := hC2.fr (S1 := ks_cl S2) (fun a e h1 _ _ _ h5 => (ks_cl_at S2 h5).trans h1) ⟨Nat.le_refl _, hC2.2.2.2.2.2.2.1.2.1⟩
  refine kl_astore_n dL_law_7 (by decide) rfl  ?_
  refine kl_newcx (S := ks_cl S2) (ci := 19) (x := 290) (ty0 := tyX16) (fs := icL icD) n2 kx_1772 kx_1773 kx_30 in_X16 tyX16_ok cl_X16 ?_ ?_ (by omega) dL_law_8 rfl (fun T2 q2 => ?_)
  · intro j hj
    rcases j with _ | _ | _ | _ | _ | _ | _ | _ | _ | _ | _ | _ | _ | _ | _ | _ | _ | _ | _ | _ | _ | _ | _ | _ | _ | _ | _ | _ | _ | _ | _ | _ | _ | _ | _ | _ | _ | _ | _ | _ | _ | _ | _ | _ | _ | _ | _ | _ | _ | _ | _ | _ | _ | _ | _ | _ | _ | _ | _ | _ | _ | _ | _ | _ | _ | _ | _ | _ | _ | _ | _ | _ | _ | _ | _ | _ | _ | _ | _ | _ | _ | _ | _ | _ | _ | _ | _ | _ | _ | _ | _ | _ | _ | _ | _ | _ | _ | _ | _ | _ | _ | _ | _ | _ | _ | _ | _ | _ | _ | _ | _ | _ | _ | _ | _ | _ | _ | _ | _ | j <;> first | rfl | (exfalso; omega)
  · rfl
  refine kl_dup dL_law_11 rfl rfl ?_
  have hlow3 := cq_low hC3
  have hC4 : cqS T2 1 0 (Bc0 Mf) 0 0 (lN 1000600) 0 Ds [] := hC3.fr (fun a e h1 h2 _ _ _ => (q2.2.2.2 a (by omega)).trans h1) ⟨by rw [q2.1]; show S2.1 ≤ 291; omega, by rw [q2.1]; omega⟩
  refine kl_callI (n := 0) (M' := mX16_init) (c_md_init (d := 3) q2.2.2.1 q2.1 (fun x hx => by obtain ⟨e, e1, e2⟩ := cq_low hC4 x hx; exact ⟨e, e1, clE_52 e2⟩) (fun a h1 h2 => (q2.2.2.2 a (by omega)).trans (ks_cl_nw S2 a (by show S2.1 ≤ a; omega) h2))) rfl rfl kx_1774 kx_1775 kx_30 kx_1776 (by decide +kernel) rfl (by decide) (Nat.le_of_ble_eq_true rfl) rfl dL_law_12 rfl (fun z3 S3 y3 => ?_)
  obtain ⟨rfl, V, F, D, M, hD0, hM, hR, hfr, hn3, hs3⟩ := y3
  have h565 : 565 ≤ S3.1 := hR.2.2.2.2.2.2.2.2.2.2
  have hC5 : cqS S3 1 0 (Bc0 Mf) 0 0 (lN 1000600) 0 Ds [] := hC4.fr hfr.c ⟨by rw [q2.1]; omega, by omega⟩
  have hMM : M = Mf := by
    rw [hM, eMf]
    exact fsB_c (by rw [hD0, eDs]; rfl)
  have hR5 : rqS S3 V F 1 0 (Br0 Mf) [0] [0] 0 D [] 0 (lN 1000600) 0 := hR.cB (fun i hi => by
    rw [← hMM, show i = 0 by omega]
    rfl)
  refine kl_astore_n dL_law_15 (by decide) rfl  ?_
  refine kl_iconst (x := nI 1) dL_law_16 (by decide) rfl ?_
  refine kl_newLx (N := 1) (x := S3.1) rfl kx_142 (by decide) (by omega) dL_law_17 rfl (fun T4 q4 => ?_)
  refine kl_astore_n dL_law_19 (by decide) rfl  ?_
  refine kl_iconst (x := nI 0) dL_law_20 (by decide) rfl ?_
  refine kl_istore dL_law_21 (by decide) rfl ?_
  refine kl_sub [(0, .ref ks_sc), (1, .ref 0), (2, .ref 290), (3, .ref S3.1), (4, .int (nI (6 * 0)))] rfl ?_
  have hnw := hR5.1.nw
  have n4 : T4.1 = S3.1 + 1 := q4.1
  have s4 : T4.2.1 = S3.2.1 + 1 := q4.2.1
  have s2 : T2.2.1 = S2.2.1 + 119 := q2.2.1
  have hC6 : cqS T4 1 0 (Bc0 Mf) 0 0 (lN 1000600) 0 Ds [] := hC5.fr (fun a e h1 _ _ _ h5 => (q4.2.2.2 a (by omega)).trans h1) ⟨by omega, by omega⟩
  have hR6 : rqS T4 V F 1 0 (Br0 Mf) [0] [0] 0 D [] 0 (lN 1000600) 0 := by
    refine hR5.cl (L := []) (fun a e h1 _ => (q4.2.2.2 a (fun ha => ?_)).trans h1) (fun x hx => by cases hx) (fun x hx => by cases hx) (fun x hx => by cases hx) (fun a h1 h2 => (q4.2.2.2 a (by omega)).trans (hnw.1 a (by omega) h2)) (by omega) (fun a ha => ?_) (by omega)
    · rw [ha, hnw.1 S3.1 (Nat.le_refl _) (by omega)] at h1
      cases h1
    · obtain ⟨e, e1, e2⟩ := cq_low hC6 a ha
      exact ⟨e, e1, clE_52 e2⟩
  exact l_loop htr hKA hKB hKC hm (hJ S3.1) hsc hL (hP S3.1) 513 0 T4 rfl ⟨1, 0, Bc0 Mf, Br0 Mf, [0], [0], 0, 0, lN 1000600, 0, Ds, D, [], V, F, hC6, hR6, ⟨by decide, by decide, by decide, fun i => ⟨rfl, rfl, rfl, rfl, rfl⟩, fun i hi => by omega, by rw [eMf]; exact hK0 Ds (by rw [eDs]; rfl)⟩, ⟨⟨fun _ => 0, q4.2.2.1⟩, by omega, by omega⟩, by omega, by omega⟩

/-! JUDGE on both sides: known, unknown, refused, full -/
theorem rbH_e9 {n : Nat} {Bc Br : Nat → Bk} (e : lwR n Bc Br) (h : ∀ i, i < n → bkH (Bc i) < 700) : ∀ i, i < n → bkH (Br i) < 700 := fun i hi => by rw [(e i).2.2.1]; exact h i hi
theorem cqS.rs {S : ks_S} {n best : Nat} {B : Nat → Bk} {dc dp : Nat} {dt : Int64} {rs : Nat} {Ds : Nat → dTx} {T : List Nat} (h : cqS S n best B dc dp dt rs Ds T) (r : Nat) (hS : 565 ≤ S.1) : cqS (ks_set S 0 (jdO dc dp dt (nI r))) n best B dc dp dt r Ds T := by
  have u : ks_up S (ks_set S 0 (jdO dc dp dt (nI r))) [0] := ks_up_set _ _ (by decide)
  exact h.up u (by decide) (ks_set_same _ _ _) (h.1.2.2.1.ag (u.2.2 _ (by decide)) (u.2.2 _ (by decide))) (Or.inr (by decide)) (Or.inr (by decide)) (Or.inr ⟨Or.inr (by decide), by decide⟩) (Or.inr (by decide)) (Or.inr (by decide)) (Or.inr (by decide)) (Or.inr (by decide)) (by decide) (Or.inr (by decide)) (Or.inr (by decide)) (h.2.2.2.1.ex u.ex9 (by decide) (by omega))
theorem ks_cl_set {S : ks_S} {o : Nat} (v : ks_E) (h : o < S.1) : ∀ a e, (ks_set (ks_cl S) o v).2.2 a = some e → (ks_set S o v).2.2 a = some e := fun a e ha => by
  by_cases c : a = o
  · subst c
    rw [ks_set_same] at ha ⊢
    exact ha
  · rw [ks_set_ne _ _ c] at ha ⊢
    exact ks_cl_le S a e ha
theorem op_jv {l : Launch} {G : ks_G} {o c : Nat} {S : ks_S} (htr : l.stackTraces = false) (hc : c ≤ 512) {n best : Nat} {Bc Br : Nat → Bk} {C R : List Nat} {t q : Nat} {dt : Int64} {rs : Nat} {Ds D : Nat → dTx} {T : List Nat} {V : Nat → Value} {F : Nat} (hC : cqS S n best Bc t q dt rs Ds T) (hR : rqS S V F n best Br C R t D T q dt rs) (hr : best < n ∧ t ≤ 12 ∧ q < n ∧ lwR n Bc Br ∧ (∀ i, i < t → D i = Ds i) ∧ kkK n best Bc Br C) {f : Nat → Int64} (ho : S.2.2 o = some (kJ 1 f)) (ho5 : 565 ≤ o) (hoS : o < S.1) (r1 : S.1 + F ≤ 4000 + 6 * c + 100 * n) (r2 : S.2.1 + 520 * F ≤ 2100000 + 2100 * c + 30000 * n) (hnk : ¬ (inF Bc n T = nI 0 ∧ n < 60)) : opI l G kkK o c yL_judge mL_judge hL_judge yX16_judge mX16_judge [] S := by
  have h0 := hC.1.1
  have hT := hC.1.2.2.1
  have hB9 := lw_B
  obtain ⟨cc, tk, hX⟩ := hC.2.2.2.2.1
  have hn60 : n ≤ 60 := hX.2.2.2
  have hS9 : S.1 + F + 50 < ks_B := by omega
  have hS5 : 565 ≤ S.1 := hR.2.2.2.2.2.2.2.2.2.2
  obtain ⟨kW, kV, kH, kt, kd⟩ := kk_B n best Bc Br C hr.2.2.2.2.2
  have eR := hr.2.2.2.1
  have hei : ∀ i, i < n → bkH (Bc i) < 700 := fun i hi => (kV i hi).1
  obtain ⟨sl, hF, hN⟩ := hC.2.2.2.2.2.1
  obtain ⟨N9, hTg⟩ := hC.2.1.2.2
  obtain ⟨f48, h48⟩ := hC.2.2.1.2.1
  obtain ⟨g49, k49, h49⟩ := hC.2.2.1.2.2.1
  have eI := inF_e eR n T
  obtain ⟨-, gT9, -, kT9, lT9, mT9⟩ := hR.2.2.2.2.2.2.2.1
  have kT := kO_T kT9 mT9
  -- behind an answer of the class
  have fin : ∀ (v : Nat) (S0 : ks_S) (f0 : Nat → Int64), v < 20 → jgW S S0 V F n best Bc Br C R t q dt rs rs Ds D T → S0.2.2 o = some (kJ 1 f0) → ((inF Bc n T = -1 ∧ v = 3) ∨ (inF Bc n T = -2 ∧ v = 4)) → (∃ V, (ks_set S0 o (kJ 1 (va_up f0 0 (nI v).toInt64))).2.2 290 = some (rfE V)) ∧ ks_P l G yX16_judge mX16_judge 17 (.ref 290 :: []) (ks_set S0 o (kJ 1 (va_up f0 0 (nI v).toInt64))) (fun z S2 => ∃ (w : Int32) (V2 : Nat → Value) (f : Nat → Int64), z = some (.int w) ∧ S2.2.2 290 = some (rfE V2) ∧ V2 111 = .int (nI 0) ∧ S2.2.2 o = some (kJ 1 f) ∧ (0 = 0 → f 0 = w.toInt64) ∧ lwI kkK o (c + 1) S2) := by
    intro v S0 f0 hv hj e1 hv2
    obtain ⟨hC0, hR0, z0, z1, z2⟩ := hj
    have oS0 : o < S0.1 := by omega
    have hC1 : cqS (ks_cl S0) n best Bc t q dt rs Ds [] := hC0.fr (S1 := ks_cl S0) (fun a e h1 _ _ _ h5 => (ks_cl_at S0 h5).trans h1) ⟨Nat.le_refl _, hC0.2.2.2.2.2.2.1.2.1⟩
    have e1c : (ks_cl S0).2.2 o = some (kJ 1 f0) := (ks_cl_at S0 (Or.inl oS0)).trans e1
    have hC2 := hC1.out (g := va_up f0 0 (nI v).toInt64) e1c ho5
    have hR2 := hR0.out (g := va_up f0 0 (nI v).toInt64) e1c ho5 oS0
    have fin2 : ∀ (S1 : ks_S) (V1 : Nat → Value), rqS S1 V1 F n best Br C R t D [] q dt rs → pbK LJe FJe (ks_set (ks_cl S0) o (kJ 1 (va_up f0 0 (nI v).toInt64))) S1 V V1 → V1 111 = .int (nI 0) → ∃ (w : Int32) (V2 : Nat → Value) (f : Nat → Int64), some (Value.int (nI v)) = some (.int w) ∧ S1.2.2 290 = some (rfE V2) ∧ V2 111 = .int (nI 0) ∧ S1.2.2 o = some (kJ 1 f) ∧ (0 = 0 → f 0 = w.toInt64) ∧ lwI kkK o (c + 1) S1 := by
      intro S1 V1 hR3 p h111
      obtain ⟨g1, g2⟩ := lw_ref9 (K := kkK) (o := o) (c := c) hC2 hR3 p (by decide) hr (ks_set_same _ _ _) ho5 (by show o < S0.1; omega) (by show S0.1 + F ≤ _; omega) (by show S0.2.1 + 520 * F ≤ _; omega)
      exact ⟨_, V1, _, rfl, p.2.1, h111, g1, fun _ => va_up_self _ _ _, g2⟩
    refine ⟨⟨V, ks_cl_set _ oS0 _ _ hR2.1.1⟩, rj_X (S := ks_set S0 o (kJ 1 (va_up f0 0 (nI v).toInt64))) (S0 := ks_set (ks_cl S0) o (kJ 1 (va_up f0 0 (nI v).toInt64))) rfl rfl (ks_cl_set _ oS0) hR2 (kW.eq eR) kH (rbH_e9 eR hei) (fun S1 V1 r hR3 p a b d h => ?_) (fun S1 V1 hR3 p a h => ?_) (fun S1 V1 hR3 p a h => ?_) (fun S1 V1 p9 g hR3 p a b d h1 h2 h h6 h7 h8 => ?_)⟩
    · exfalso
      rw [eI] at a
      rcases hv2 with w | w
      · exact (nI_20m r d).1 (a.symm.trans w.1)
      · exact (nI_20m r d).2 (a.symm.trans w.1)
    · rw [eI] at a
      rcases hv2 with w | w
      · rw [← w.2]; exact fin2 S1 V1 hR3 p h
      · exact absurd (a.symm.trans w.1) (by decide)
    · rw [eI] at a
      rcases hv2 with w | w
      · exact absurd (a.symm.trans w.1) (by decide)
      · rw [← w.2]; exact fin2 S1 V1 hR3 p h
    · exfalso
      rw [eI] at a
      rcases hv2 with w | w
      · exact (nI_20m 0 (by decide)).1 (a.symm.trans w.1)
      · exact (nI_20m 0 (by decide)).2 (a.symm.trans w.1)
  rcases inF_r Bc n T with hin | hin | ⟨r, hr20, hin⟩
  · refine ⟨0, fun S1 => ∃ (S0 : ks_S) (f0 : Nat → Int64), jgW S S0 V F n best Bc Br C R t q dt rs rs Ds D T ∧ S0.2.2 o = some (kJ 1 f0) ∧ S1 = ks_set S0 o (kJ 1 (va_up f0 0 (nI 3).toInt64)), by decide, (hl_judge_ok (d := 16) htr h0 (c_jd_judge3 (d := 7) h0 hX hF hC.2.2.2.2.2.2.1 (by omega) kW hei hT hC.2.1.1.1.2.1 hC.2.1.2.1 hC.1.2.1 hTg h48 h49 k49 hin) (fun z S1 y => ?_)).mono (fun z S1 y => ?_), ?_⟩
    · obtain ⟨e, S2, hp, u3, hb⟩ := y
      exact ⟨_, f, e, (jgW_in hC hR hS9 hF hN hp u3 hb ho ho5 hoS).2⟩
    · obtain ⟨e, v, S0, f0, ⟨ev, S2, hp, u3, hb⟩, y2, y3⟩ := y
      cases ev
      exact ⟨e, S0, f0, (jgW_in hC hR hS9 hF hN hp u3 hb ho ho5 hoS).1, y2, y3⟩
    · rintro S1 ⟨S0, f0, hj, e1, rfl⟩
      exact fin 3 S0 f0 (by decide) hj e1 (Or.inl ⟨hin, rfl⟩)
  · refine ⟨0, fun S1 => ∃ (S0 : ks_S) (f0 : Nat → Int64), jgW S S0 V F n best Bc Br C R t q dt rs rs Ds D T ∧ S0.2.2 o = some (kJ 1 f0) ∧ S1 = ks_set S0 o (kJ 1 (va_up f0 0 (nI 4).toInt64)), by decide, (hl_judge_ok (d := 16) htr h0 (c_jd_judge4 (d := 7) h0 hX hF hC.2.2.2.2.2.2.1 (by omega) kW hei hT hC.2.1.1.1.2.1 hC.2.1.2.1 hC.1.2.1 hTg h48 h49 k49 hin) (fun z S1 y => ?_)).mono (fun z S1 y => ?_), ?_⟩
    · obtain ⟨e, S2, hp, u3, hb⟩ := y
      exact ⟨_, f, e, (jgW_in hC hR hS9 hF hN hp u3 hb ho ho5 hoS).2⟩
    · obtain ⟨e, v, S0, f0, ⟨ev, S2, hp, u3, hb⟩, y2, y3⟩ := y
      cases ev
      exact ⟨e, S0, f0, (jgW_in hC hR hS9 hF hN hp u3 hb ho ho5 hoS).1, y2, y3⟩
    · rintro S1 ⟨S0, f0, hj, e1, rfl⟩
      exact fin 4 S0 f0 (by decide) hj e1 (Or.inr ⟨hin, rfl⟩)
  · by_cases hr0 : 0 < r
    · refine ⟨1, fun S1 => ∃ S3 : ks_S, jgW S S3 V F n best Bc Br C R t q dt rs rs Ds D T ∧ S3.2.2 o = some (kJ 1 f) ∧ S1 = ks_one (ks_set S3 0 (jdO t q dt (nI r))), by decide, (hl_judge_no3 (d := 16) htr h0 (t_judgeR (d := 7) htr (by omega) h0 hX hF hC.2.2.2.2.2.2.1 (by omega) kW hei hT hC.2.1.1.1.2.1 hC.2.1.2.1 hC.1.2.1 hTg h48 h49 k49 hin ⟨hr0, hr20⟩) (fun z S1 y => y.1)).mono (fun z S1 y => ?_), ?_⟩
      · obtain ⟨e, z1, -, S2, S3, hp, u3, hb, e3⟩ := y
        have := jgW_in hC hR hS9 hF hN hp u3 hb ho ho5 hoS
        exact ⟨e, S3, this.1, this.2, e3⟩
      · rintro S1 ⟨S3, ⟨hC0, hR0, z0, z1, z2⟩, e1, rfl⟩
        have oS0 : o < S3.1 := by omega
        have hC1 : cqS (ks_cl S3) n best Bc t q dt rs Ds [] := hC0.fr (S1 := ks_cl S3) (fun a e h1 _ _ _ h5 => (ks_cl_at S3 h5).trans h1) ⟨Nat.le_refl _, hC0.2.2.2.2.2.2.1.2.1⟩
        have hC2 := hC1.rs r (by show 565 ≤ S3.1; omega)
        have u0 : ks_up (ks_cl S3) (ks_set (ks_cl S3) 0 (jdO t q dt (nI r))) [0] := ks_up_set _ _ (by decide)
        have hR2 := hR0.lo u0 (by decide) (cq_low hC2)
        have hC3 := hC2.one (by show S3.1 + 1 < ks_B; omega)
        have hR3 := hR2.one (S1 := S) (L := []) (by show S3.1 + F + 3 < ks_B; omega) (cq_low hC2)
        have le : ∀ a e, (ks_one (ks_set (ks_cl S3) 0 (jdO t q dt (nI r)))).2.2 a = some e → (ks_one (ks_set S3 0 (jdO t q dt (nI r)))).2.2 a = some e := ks_cl_set (S := S3) _ (by omega)
        have ho3 : (ks_one (ks_set (ks_cl S3) 0 (jdO t q dt (nI r)))).2.2 o = some (kJ 1 f) := (ks_set_ne _ _ (by omega)).trans ((ks_cl_at S3 (Or.inl oS0)).trans e1)
        refine ⟨⟨V, le _ _ hR3.1.1⟩, rj_X (S := ks_one (ks_set S3 0 (jdO t q dt (nI r)))) (S0 := ks_one (ks_set (ks_cl S3) 0 (jdO t q dt (nI r)))) rfl rfl le hR3 (kW.eq eR) kH (rbH_e9 eR hei) (fun S1 V1 r9 hR4 p a b d h => ?_) (fun S1 V1 hR4 p a h => ?_) (fun S1 V1 hR4 p a h => ?_) (fun S1 V1 p9 g hR4 p a b d h1 h2 h h6 h7 h8 => ?_)⟩
        · rw [eI, hin] at a
          have er : r = r9 := nI_20 r hr20 r9 d a
          subst er
          obtain ⟨g1, g2⟩ := lw_ref9 (K := kkK) (o := o) (c := c) hC3 hR4 p (by decide) hr ho3 ho5 (by show o < S3.1 + 1; omega) (by show S3.1 + 1 + F ≤ _; omega) (by show S3.2.1 + 6 + 520 * F ≤ _; omega)
          exact ⟨_, V1, _, rfl, p.2.1, h, g1, fun x => absurd x (by decide), g2⟩
        · rw [eI, hin] at a; exact absurd a (nI_20m r hr20).1
        · rw [eI, hin] at a; exact absurd a (nI_20m r hr20).2
        · rw [eI, hin] at a
          have := nI_20 r hr20 0 (by decide) a
          omega
    · have er : r = 0 := by omega
      subst er
      have hn : n = 60 := by
        rcases Nat.lt_or_ge n 60 with w | w
        · exact absurd ⟨hin, w⟩ hnk
        · omega
      refine ⟨2, fun S1 => ∃ S3 : ks_S, jgW S S3 V F n best Bc Br C R t q dt rs rs Ds D T ∧ S3.2.2 o = some (kJ 1 f) ∧ S1 = ks_one S3, by decide, (hl_judge_no0 (d := 16) htr h0 (t_judgeK (d := 7) htr (by omega) h0 hX hF hC.2.2.2.2.2.2.1 (by omega) kW hei hT hC.2.1.1.1.2.1 hC.2.1.2.1 hC.1.2.1 hTg h48 h49 k49 hin hn) (fun z S1 y => y.1)).mono (fun z S1 y => ?_), ?_⟩
      · obtain ⟨e, z1, -, S2, S3, hp, u3, hb, e3⟩ := y
        have := jgW_in hC hR hS9 hF hN hp u3 hb ho ho5 hoS
        exact ⟨e, S3, this.1, this.2, e3⟩
      · rintro S1 ⟨S3, ⟨hC0, hR0, z0, z1, z2⟩, e1, rfl⟩
        have oS0 : o < S3.1 := by omega
        have hC1 : cqS (ks_cl S3) n best Bc t q dt rs Ds [] := hC0.fr (S1 := ks_cl S3) (fun a e h1 _ _ _ h5 => (ks_cl_at S3 h5).trans h1) ⟨Nat.le_refl _, hC0.2.2.2.2.2.2.1.2.1⟩
        have hC3 := hC1.one (by show S3.1 + 1 < ks_B; omega)
        have hR3 := hR0.one (S1 := S) (L := []) (by show S3.1 + F + 3 < ks_B; omega) (cq_low hC1)
        have le : ∀ a e, (ks_one (ks_cl S3)).2.2 a = some e → (ks_one S3).2.2 a = some e := ks_cl_le S3
        have ho3 : (ks_one (ks_cl S3)).2.2 o = some (kJ 1 f) := (ks_cl_at S3 (Or.inl oS0)).trans e1
        refine ⟨⟨V, le _ _ hR3.1.1⟩, rj_X (S := ks_one S3) (S0 := ks_one (ks_cl S3)) rfl rfl le hR3 (kW.eq eR) kH (rbH_e9 eR hei) (fun S1 V1 r9 hR4 p a b d h => ?_) (fun S1 V1 hR4 p a h => ?_) (fun S1 V1 hR4 p a h => ?_) (fun S1 V1 p9 g hR4 p a b d h1 h2 h h6 h7 h8 => ?_)⟩
        · rw [eI, hin] at a
          have := nI_20 0 (by decide) r9 d a
          omega
        · rw [eI, hin] at a; exact absurd a (nI_20m 0 (by decide)).1
        · rw [eI, hin] at a; exact absurd a (nI_20m 0 (by decide)).2
        · have e5 : S1.1 = S3.1 + 1 := p.1.1
          refine rj_K hR4 (by omega) hr.2.2.2.2.2 eR a b d h6 h7 h8 lT9 kT (fun S2 V2 _ hR5 p5 v => ?_) (fun _ _ w => by omega) (fun _ _ _ _ w => by omega) (fun _ _ _ _ w => by omega)
          have p6 : pbK LJe FJe (ks_one (ks_cl S3)) S2 V V2 := p.trans (p5.mono (fun x hx => by cases hx) (by decide))
          obtain ⟨g1, g2⟩ := lw_ref9 (K := kkK) (o := o) (c := c) hC3 hR5 p6 (by decide) hr ho3 ho5 (by show o < S3.1 + 1; omega) (by show S3.1 + 1 + F ≤ _; omega) (by show S3.2.1 + 6 + 520 * F ≤ _; omega)
          exact ⟨_, V2, _, rfl, p6.2.1, v, g1, fun x => absurd x (by decide), g2⟩

/-! THE MATHEMATICS that class and reference rest on -/
theorem mlT_tb {R : Nat → Nat} {f : Nat} {P : Pt} (e : ptR R f = P) : mlT R f 0 = P ∧ mlT R f 1 = ptD P ∧ ∀ i, i < 13 → ∃ o, mlT R f (i + 2) = ptO (mlT R f (i + 1)) P o := by
  subst e
  exact ⟨rfl, rfl, fun i _ => ⟨_, rfl⟩⟩
theorem pr_cop {p Y : Nat} (h : isPr p) (h0 : Y ≠ 0) (hl : Y < p) : Nat.gcd Y p = 1 := by
  rcases h.2 _ (Nat.gcd_dvd_right Y p) with c | c
  · exact c
  · have := Nat.le_of_dvd (by omega) (Nat.gcd_dvd_left Y p)
    omega
theorem dv_eq {p k X Y v : Nat} (h : isPr p) (hk : p = k + 1 + 1) (k0 : 0 < k) (f : ∀ a, a % p ≠ 0 → a ^ (k + 1) % p = 1) (hY : Y < p) (hd : dvP p X Y v) : v = X * Y ^ k % p := by
  obtain ⟨hv, h0, h1⟩ := hd
  by_cases c : Y = 0
  · rw [h0 c, c, Nat.zero_pow k0, Nat.mul_zero, Nat.zero_mod]
  · have f1 := f Y (by rw [Nat.mod_eq_of_lt hY]; exact c)
    have e := h1 (pr_cop h c hY)
    have e1 : v * Y ^ (k + 1) % p = v := by rw [Nat.mul_mod, f1, Nat.mul_one, Nat.mod_mod, Nat.mod_eq_of_lt hv]
    have e2 : v * Y ^ (k + 1) = v * Y * Y ^ k := by rw [Nat.pow_succ, Nat.mul_comm (Y ^ k) Y, Nat.mul_assoc]
    rw [e2, Nat.mul_mod, e, ← Nat.mul_mod] at e1
    exact e1.symm
theorem dv_P {X Y v : Nat} (hY : Y < pP) (hd : dvP pP X Y v) : v = dvF pP X Y := by
  obtain ⟨k, hk⟩ : ∃ k, pP = k + 1 + 1 := ⟨pP - 2, by have := pP_2; omega⟩
  have e : pP - 2 = k := by omega
  have h7 : 7 < pP := by decide +kernel
  unfold dvF
  rw [e]
  exact dv_eq pr_P hk (by omega) (fun a ha => pr_Pf hk a ha) hY hd
theorem dv_N {X Y v : Nat} (hY : Y < nN) (hd : dvP nN X Y v) : v = dvF nN X Y := by
  obtain ⟨k, hk⟩ : ∃ k, nN = k + 1 + 1 := ⟨nN - 2, by have := nN_2; omega⟩
  have e : nN - 2 = k := by omega
  have h7 : 7 < nN := by decide +kernel
  unfold dvF
  rw [e]
  exact dv_eq pr_N hk (by omega) (fun a ha => pr_Nf hk a ha) hY hd
theorem rtL_s (a v c : Nat) : (mM (mM v v) a) ^ c % pP = (v * v * a) ^ c % pP ∧ (mM v v) ^ c % pP = (v * v) ^ c % pP := by
  have h1 : mM (mM v v) a % pP = v * v * a % pP := by
    unfold mM
    rw [Nat.mod_mod, Nat.mul_mod, Nat.mod_mod, ← Nat.mul_mod]
  have h2 : mM v v % pP = v * v % pP := by
    unfold mM
    rw [Nat.mod_mod]
  exact ⟨by rw [Nat.pow_mod, h1, ← Nat.pow_mod], by rw [Nat.pow_mod, h2, ← Nat.pow_mod]⟩
theorem rtL_e (a : Nat) : ∀ (c v : Nat), rtL a c v % pP = v ^ (2 ^ c) * a ^ (eR % 2 ^ c) % pP
  | 0, v => by
    rw [Nat.pow_zero, Nat.mod_one, Nat.pow_zero, Nat.pow_one, Nat.mul_one]
    rfl
  | c + 1, v => by
    show rtL a c (if eR / 2 ^ c % 2 = 1 then mM (mM v v) a else mM v v) % pP = _
    rw [rtL_e a c, Nat.pow_succ 2 c, Nat.mod_mul]
    generalize 2 ^ c = N
    by_cases b : eR / N % 2 = 1
    · rw [if_pos b, b, Nat.mul_one, Nat.mul_mod, (rtL_s a v N).1, ← Nat.mul_mod, Nat.mul_pow, Nat.mul_pow, Nat.pow_add, Nat.pow_mul, Nat.pow_two, Nat.mul_assoc (v ^ N * v ^ N), Nat.mul_comm (a ^ N)]
    · rw [if_neg b, show eR / N % 2 = 0 by omega, Nat.mul_zero, Nat.add_zero, Nat.mul_mod, (rtL_s a v N).2, ← Nat.mul_mod, Nat.mul_pow, Nat.pow_mul, Nat.pow_two]
theorem rtL_1 (a c : Nat) (hc : eR < 2 ^ c) : rtL a c 1 % pP = a ^ eR % pP := by rw [rtL_e, Nat.one_pow, Nat.one_mul, Nat.mod_eq_of_lt hc]
theorem eR_e : (pP + 1) / 4 = eR := by decide +kernel
theorem rtM_e (z : Nat) : rtM z = rtL z 256 1 := by
  unfold rtM
  rw [eR_e, ← rtL_1 z 256 (by decide +kernel), Nat.mod_eq_of_lt (rtL_lt (by decide))]
theorem pr_pw {p a : Nat} (h : isPr p) : ∀ e, p ∣ a ^ e → p ∣ a
  | 0, hd => by
    rw [Nat.pow_zero] at hd
    have := Nat.le_of_dvd (by omega) hd
    have := h.1
    omega
  | e + 1, hd => by
    rw [Nat.pow_succ] at hd
    rcases pr_mul h hd with c | c
    · exact pr_pw h e c
    · exact c
theorem ky3_c {F : Type} [Lean.Grind.CommRing F] {c : Nat → F} {vl : F → Nat} (h : fdC c vl) (x : Nat) : c (ky3 x) = c x * c x * c x + 7 := by
  unfold ky3
  rw [h.aa, h.mm, h.mm, h.c7]
theorem ky3_0 (x : Nat) : ky3 x ≠ 0 := fun e => by
  obtain ⟨F, iF, c, vl, h⟩ := fp_ex
  have := h.cb (c x)
  rw [← ky3_c h, e, h.c0] at this
  exact this rfl
theorem ky3_lt (x : Nat) : ky3 x < pP := Nat.mod_lt _ (by decide)
theorem rt_n0 (x : Nat) : rtL (ky3 x) 256 1 ≠ 0 := fun e => by
  have h := rtL_1 (ky3 x) 256 (by decide +kernel)
  rw [e, Nat.zero_mod] at h
  have d := pr_pw pr_P eR (Nat.dvd_of_mod_eq_zero h.symm)
  have := Nat.le_of_dvd (by have := ky3_0 x; omega) d
  have := ky3_lt x
  omega
theorem math_ok : mathOK := by
  refine ⟨fun X Y v _ hY hd => dv_N hY hd, fun X Y v _ hY hd => dv_P hY hd, fun x _ => rt_n0 x, fun K x y hx hy e hK i hi => ?_⟩
  obtain ⟨F, iF, c, vl, h⟩ := fp_ex
  have hs := smO_of h e
  obtain ⟨k0, k1, k2⟩ := hK
  rw [k0] at k1
  have t := mlT_tb (R := kyR x y) (f := 10) (P := (x, y, 1)) rfl
  exact tb_eq h hs k0 k1 (fun i hi => by have := k2 i hi; rw [k0] at this; exact this) t.1 t.2.1 t.2.2 i hi
/-- the coordinates -/
theorem iv_c {F : Type} [Lean.Grind.CommRing F] {c : Nat → F} {vl : F → Nat} (h : fdC c vl) {z : Nat} (hz : z < pP) : ivF c vl (c z) = c (ivM z) := by
  unfold ivF
  rw [h.2.2.2.2.2, Nat.mod_eq_of_lt hz]
theorem jp_pk {F : Type} [Lean.Grind.CommRing F] {c : Nat → F} {vl : F → Nat} (h : fdC c vl) {P : Pt} (l : P.2.2 < pP) (z : P.2.2 ≠ 0) : jpE c vl P = some (c (pkX P), c (pkY P)) := by
  have y1 : (cTr c P).2.2 ≠ 0 := fun e => z ((h.z l).mp e)
  have e := jcE_1 (iv := ivF c vl) y1
  unfold pkX pkY
  rw [h.mm, h.mm, h.mm, h.mm, h.mm, ← iv_c h l]
  exact e
theorem jp_af {F : Type} [Lean.Grind.CommRing F] {c : Nat → F} {vl : F → Nat} (h : fdC c vl) {P : Pt} (l : P.2.2 < pP) (z : P.2.2 ≠ 0) {x : Nat} (hd : dvP pP P.1 (mM P.2.2 P.2.2) x) : x = pkX P := by
  have y1 : c P.2.2 ≠ 0 := fun e => z ((h.z l).mp e)
  have m0 : mM P.2.2 P.2.2 ≠ 0 := fun e => by
    have := (h.z (mM_lt P.2.2 P.2.2)).mpr e
    rw [h.mm] at this
    exact h.g.ne y1 y1 this
  have e := congrArg c (hd.2.2 (pr_cop pr_P m0 (mM_lt _ _)))
  rw [h.md, h.md, h.1, h.mm] at e
  refine h.il hd.1 (mM_lt _ _) ?_
  have i1 := h.g.1 _ y1
  rw [iv_c h l] at i1
  unfold pkX
  rw [h.mm, h.mm, ← e]
  generalize c (ivM P.2.2) = i at *
  generalize c P.2.2 = w at *
  have : c x * (w * w) * (i * i) = c x * ((w * i) * (w * i)) := by grind
  rw [this, i1]
  grind
theorem jp_ag {F : Type} [Lean.Grind.CommRing F] {c : Nat → F} {vl : F → Nat} (h : fdC c vl) {P : Pt} (l : P.2.2 < pP) (z : P.2.2 ≠ 0) {y : Nat} (hd : dvP pP P.2.1 (mM (mM P.2.2 P.2.2) P.2.2) y) : y = pkY P := by
  have y1 : c P.2.2 ≠ 0 := fun e => z ((h.z l).mp e)
  have m0 : mM (mM P.2.2 P.2.2) P.2.2 ≠ 0 := fun e => by
    have := (h.z (mM_lt (mM P.2.2 P.2.2) P.2.2)).mpr e
    rw [h.mm, h.mm] at this
    exact h.g.ne (h.g.ne y1 y1) y1 this
  have e := congrArg c (hd.2.2 (pr_cop pr_P m0 (mM_lt _ _)))
  rw [h.md, h.md, h.1, h.mm, h.mm] at e
  refine h.il hd.1 (mM_lt _ _) ?_
  have i1 := h.g.1 _ y1
  rw [iv_c h l] at i1
  unfold pkY
  rw [h.mm, h.mm, h.mm, ← e]
  generalize c (ivM P.2.2) = i at *
  generalize c P.2.2 = w at *
  have : c y * (w * w * w) * (i * i * i) = c y * ((w * i) * (w * i) * (w * i)) := by grind
  rw [this, i1]
  grind
theorem pkp_eq {F : Type} [Lean.Grind.CommRing F] {c : Nat → F} {vl : F → Nat} (h : fdC c vl) {P Q : Pt} (lP : P.2.2 < pP) (lQ : Q.2.2 < pP) (zP : P.2.2 ≠ 0) (e : jpE c vl P = jpE c vl Q) : Q.2.2 ≠ 0 ∧ pkX P = pkX Q ∧ pkY P = pkY Q := by
  have zQ : Q.2.2 ≠ 0 := fun x => zP (jp_n h lP (by rw [e, jp_0 h x]))
  rw [jp_pk h lP zP, jp_pk h lQ zQ] at e
  have e1 := Option.some.inj e
  exact ⟨zQ, h.il (mM_lt _ _) (mM_lt _ _) (congrArg Prod.fst e1), h.il (mM_lt _ _) (mM_lt _ _) (congrArg Prod.snd e1)⟩
/-- both take the same multiples -/
theorem tb_B {F : Type} [Lean.Grind.CommRing F] {c : Nat → F} {vl : F → Nat} (h : fdC c vl) : tbO c vl baT (some (c gXX, c gYY)) := by
  have t := mlT_tb (R := baR) (f := 55) (P := (gXX, gYY, 1)) rfl
  have := tbO_of h (smO_of h gp_on.1) t.1 t.2.1 t.2.2
  rw [jp_aff h] at this
  exact this
theorem tb_K {F : Type} [Lean.Grind.CommRing F] {c : Nat → F} {vl : F → Nat} (h : fdC c vl) {x y : Nat} (e : mM y y = ky3 x) : tbO c vl (kyT x y) (some (c x, c y)) := by
  have t := mlT_tb (R := kyR x y) (f := 10) (P := (x, y, 1)) rfl
  have := tbO_of h (smO_of h e) t.1 t.2.1 t.2.2
  rw [jp_aff h] at this
  exact this
theorem p16 : (16 : Nat) ^ 64 = 2 ^ 256 := by decide +kernel
theorem sm_jp {F : Type} [Lean.Grind.CommRing F] {c : Nat → F} {vl : F → Nat} (h : fdC c vl) {B K : Nat → Pt} {g k : Option (F × F)} (hB : tbO c vl B g) (hK : tbO c vl K k) {u v : Nat} (hu : u < 2 ^ 256) (hv : v < 2 ^ 256) : jpE c vl (smL B K u v 64 ((0, 0, 0), false)).1 = gaE (ivF c vl) (muE (ivF c vl) u g) (muE (ivF c vl) v k) ∧ (smL B K u v 64 ((0, 0, 0), false)).1.2.2 < pP := by
  have z : jpE c vl (0, 0, 0) = none := jp_0 h rfl
  have := jp_sm h hB hK u v 64 ((0, 0, 0), false) (by show 0 < pP; decide) (by show onE (jpE c vl (0, 0, 0)); rw [z]; trivial) (fun _ => rfl)
  rw [p16, Nat.mod_eq_of_lt hu, Nat.mod_eq_of_lt hv] at this
  refine ⟨?_, this.2⟩
  rw [this.1]
  show gaE _ (muE _ _ (jpE c vl (0, 0, 0))) _ = _
  rw [z, muE_n h.g, gaE_o h.g (gaE_on h.g (muE_on h.g hB.1 _) (muE_on h.g hK.1 _))]
theorem gp_eq : gpG = (gXX, gYY, 1) := rfl
theorem kG_jp {F : Type} [Lean.Grind.CommRing F] {c : Nat → F} {vl : F → Nat} (h : fdC c vl) {u : Nat} (hu : u < 2 ^ 256) : jpE c vl (kG u) = muE (ivF c vl) u (some (c gXX, c gYY)) ∧ (kG u).2.2 < pP := by
  have := sm_jp h (tb_B h) (tb_B h) hu (v := 0) (by decide)
  refine ⟨?_, this.2⟩
  show jpE c vl (smL baT baT u 0 64 ((0, 0, 0), false)).1 = _
  rw [this.1]
  exact gaE_o2 h.g (muE_on h.g (tb_B h).1 _)
theorem rkG_jp {F : Type} [Lean.Grind.CommRing F] {c : Nat → F} {vl : F → Nat} (h : fdC c vl) {u : Nat} (hu : u < 2 ^ 256) : jpE c vl (rkG gpG u) = muE (ivF c vl) u (some (c gXX, c gYY)) ∧ (rkG gpG u).2.2 < pP := by
  have := rm_mu h (P := (gXX, gYY, 1)) (by show 1 < pP; decide) (by rw [jp_aff h]; exact (tb_B h).1) hu
  rw [jp_aff h] at this
  exact this
theorem kG_z {u : Nat} (h0 : 0 < u) (hu : u < nN) : (kG u).2.2 ≠ 0 := fun e => by
  obtain ⟨F, iF, c, vl, h⟩ := fp_ex
  have k := kG_jp h (u := u) (Nat.lt_trans hu nN_b.1)
  rw [jp_0 h e] at k
  exact gp_ord h (tb_B h).1 (by intro x; cases x) h0 hu k.1.symm
/-- the first coordinates that both find -/
theorem kG_x {u x : Nat} (hu : u < nN) (hd : dvP pP (kG u).1 (mM (kG u).2.2 (kG u).2.2) x) : x = pkX (rkG gpG u) := by
  obtain ⟨F, iF, c, vl, h⟩ := fp_ex
  have b := Nat.lt_trans hu nN_b.1
  have k := kG_jp h b
  have q := rkG_jp h b
  by_cases c0 : u = 0
  · have z1 : (kG u).2.2 = 0 := jp_n h k.2 (by rw [k.1, c0]; rfl)
    have z2 : (rkG gpG u).2.2 = 0 := jp_n h q.2 (by rw [q.1, c0]; rfl)
    rw [hd.2.1 (by rw [z1, mM_0])]
    unfold pkX
    rw [ivM_z z2, mM_0, mM_0]
  · have z := kG_z (by omega) hu
    rw [jp_af h k.2 z hd]
    exact (pkp_eq h k.2 q.2 z (by rw [k.1, q.1])).2.1
theorem kG_y {u y : Nat} (h0 : 0 < u) (hu : u < nN) (hd : dvP pP (kG u).2.1 (mM (mM (kG u).2.2 (kG u).2.2) (kG u).2.2) y) : y = pkY (rkG gpG u) := by
  obtain ⟨F, iF, c, vl, h⟩ := fp_ex
  have b := Nat.lt_trans hu nN_b.1
  have k := kG_jp h b
  have q := rkG_jp h b
  have z := kG_z h0 hu
  rw [jp_ag h k.2 z hd]
  exact (pkp_eq h k.2 q.2 z (by rw [k.1, q.1])).2.2
theorem wsK_c {kn : Nat} {gh gh' : Nat → Nat} (e : bytL gh 0 32 = bytL gh' 0 32) : wsK kn gh = wsK kn gh' ∧ beN gh 0 = beN gh' 0 := by
  have e1 : ∀ q, q < 32 → gh q = gh' q := fun q hq => by
    have := (bytL_ext.mp e).2 q hq
    rw [Nat.zero_add] at this
    exact this
  refine ⟨?_, beN_c (fun k hk => by rw [Nat.zero_add]; exact e1 k hk)⟩
  unfold wsK
  rw [sha_congr (m := wsI kn gh) (m' := wsI kn gh') (fun k hk => by
    unfold wsI
    split
    · rfl
    · split
      · rfl
      · exact e1 _ (by omega))]
theorem wsK_lt (kn : Nat) (gh : Nat → Nat) : wsK kn gh < nN := Nat.mod_lt _ (by have := nN_2; omega)
theorem rsS_e {K x kn z : Nat} : dvF nN ((z % nN + x * kn % nN) % nN) K = rsS K x kn z := by
  unfold dvF rsS
  generalize K ^ (nN - 2) = q
  rw [← Nat.add_mod, Nat.mod_mul_mod, Nat.mul_comm x kn]
theorem lw_m : lwM := by
  have hb : (2 : Nat) ^ 31 < nN := by decide +kernel
  refine ⟨fun c x y h0 hc ha => ⟨kG_x (by omega) ha.1, kG_y h0 (by omega) ha.2⟩, fun kn gh gh' x0 s ty _ _ _ e hw => ?_, fun kn gh gh' ty e => ?_⟩
  · obtain ⟨e1, e2⟩ := wsK_c (kn := kn) e
    obtain ⟨h1, h2⟩ := hw
    have ex := kG_x (wsK_lt kn gh) h1
    have es := dv_N (wsK_lt kn gh) h2
    rw [rsS_e] at es
    unfold rsW
    rw [← e1, ← e2, es, ex]
  · obtain ⟨e1, e2⟩ := wsK_c (kn := kn) e
    unfold rsW
    rw [e1, e2]
/-- whether a signature is right: both say the same -/
theorem sh_ec {F : Type} [Lean.Grind.CommRing F] {c : Nat → F} {vl : F → Nat} (h : fdC c vl) {P Q : Pt} (lP : P.2.2 < pP) (lQ : Q.2.2 < pP) (l1 : P.1 < pP) (e : jpE c vl P = jpE c vl Q) {q : Nat} (hq : q < nN) : shR P q = ecR Q q := by
  have hnp := nN_b.2.2.2.2.1
  by_cases z : P.2.2 = 0
  · have z2 : Q.2.2 = 0 := jp_n h lQ (by rw [← e, jp_0 h z])
    unfold shR ecR
    rw [decide_eq_false (fun x => x.1 z), decide_eq_false (fun x => x.1 z2)]
  · obtain ⟨zQ, eX, -⟩ := pkp_eq h lP lQ z e
    have hX : pkX Q < pP := mM_lt _ _
    have y1 : c P.2.2 ≠ 0 := fun x => z ((h.z lP).mp x)
    have i1 := h.g.1 _ y1
    rw [iv_c h lP] at i1
    have key : ∀ w, w < pP → (mM w (mM P.2.2 P.2.2) = P.1 ↔ w = pkX Q) := fun w hw => by
      rw [← eX]
      constructor
      · intro a
        refine h.il hw (mM_lt _ _) ?_
        unfold pkX
        rw [h.mm, h.mm, ← a, h.mm, h.mm]
        generalize c (ivM P.2.2) = i at *
        generalize c P.2.2 = w9 at *
        have : c w * (w9 * w9) * (i * i) = c w * ((w9 * i) * (w9 * i)) := by grind
        rw [this, i1]
        grind
      · intro a
        refine h.il (mM_lt _ _) l1 ?_
        rw [a]
        unfold pkX
        rw [h.mm, h.mm, h.mm, h.mm]
        generalize c (ivM P.2.2) = i at *
        generalize c P.2.2 = w9 at *
        have : c P.1 * (i * i) * (w9 * w9) = c P.1 * ((w9 * i) * (w9 * i)) := by grind
        rw [this, i1]
        grind
    unfold shR ecR
    rw [Bool.eq_iff_iff, decide_eq_true_eq, decide_eq_true_eq]
    show _ ↔ _ ∧ (if pkX Q < nN then pkX Q else pkX Q - nN) = q
    generalize pkX Q = X at *
    constructor
    · rintro ⟨-, a | ⟨b, a⟩⟩
      · have := (key q (by omega)).mp a
        refine ⟨zQ, ?_⟩
        rw [if_pos (by omega), this]
      · have := (key (q + nN) (by omega)).mp a
        refine ⟨zQ, ?_⟩
        rw [if_neg (by omega)]
        omega
    · rintro ⟨-, a⟩
      refine ⟨z, ?_⟩
      by_cases b : X < nN
      · rw [if_pos b] at a
        exact Or.inl ((key q (by omega)).mpr a.symm)
      · rw [if_neg b] at a
        exact Or.inr ⟨by omega, (key (q + nN) (by omega)).mpr (by omega)⟩

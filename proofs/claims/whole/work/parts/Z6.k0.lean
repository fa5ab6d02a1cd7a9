/-! THE LAW: what holds at the first block -/
theorem numL_b (v : Int64) (n : Nat) : ∀ x ∈ numL v n, x < 256 := fun x hx => by
  obtain ⟨k, -, rfl⟩ := List.mem_map.mp hx
  exact Nat.mod_lt _ (by decide)
theorem byL9_b {g : Nat → Nat} (hg : kO g) (i n : Nat) : ∀ x ∈ bytL g i n, x < 256 := fun x hx => by
  obtain ⟨k, -, rfl⟩ := List.mem_map.mp hx
  exact hg _
theorem fsT_b : ∀ x ∈ txL fsT, x < 256 := by decide +kernel
theorem fsM_b {Ds : Nat → dTx} (h : Ds 0 = fsT) : ∀ x ∈ fsM Ds, x < 256 := by
  have kr : kO (drR 0 Ds 1) := fun j => by
    show (if 0 = 1 ∧ j = 0 then (1 + root_ (idG Ds) 1 0) % 256 else root_ (idG Ds) 1 j) < 256
    rw [if_neg (by omega)]
    exact kO_root (fun j => kO_sha _ _ _) 1 j
  intro x hx
  unfold fsM drH at hx
  rw [show catT Ds 1 = txL fsT from by rw [← h]; rfl, if_neg (by decide), if_neg (by decide), if_neg (by decide)] at hx
  simp only [List.mem_append] at hx
  rcases hx with ((((((hx | hx) | hx) | hx) | hx) | hx) | hx) | hx
  · exact numL_b _ _ x hx
  · exact byL9_b (fun _ => by decide) _ _ x hx
  · exact byL9_b kr _ _ x hx
  · exact numL_b _ _ x hx
  · exact numL_b _ _ x hx
  · exact numL_b _ _ x hx
  · have : ∀ x ∈ cntL 1, x < 256 := by decide +kernel
    exact this x hx
  · exact fsT_b x hx
theorem fsB_b {Ds : Nat → dTx} (h : Ds 0 = fsT) : kO (mg (fsB Ds)) := fun j => by
  have ok := fsB_ok h (fnN (fsM Ds) true (tg_num 545259519) 4096 0)
  unfold fsB
  generalize fnN (fsM Ds) true (tg_num 545259519) 4096 0 = i at *
  have hl := fsM_len h
  by_cases c : j < 144
  · rw [sNc_at (by omega)]
    split
    · exact Nat.mod_lt _ (by decide)
    · split
      · exact Nat.mod_lt _ (by decide)
      · exact fsM_b h _ (by
          unfold mg
          exact mem_gd.mpr ⟨j, by omega, rfl⟩)
  · unfold mg
    rw [List.getD_eq_getElem?_getD, List.getElem?_eq_none (by rw [ok.1]; omega)]
    decide
theorem kk_0 (Ds : Nat → dTx) (h : Ds 0 = fsT) : kkK 1 0 (Bc0 (fsB Ds)) (Br0 (fsB Ds)) [0] := by
  obtain ⟨o1, o2, o3, o4⟩ := fsB_ok h (fnN (fsM Ds) true (tg_num 545259519) 4096 0)
  obtain ⟨x1, x2⟩ := fs_first h (fnN (fsM Ds) true (tg_num 545259519) 4096 0)
  have kM := fsB_b h
  change (fsB Ds).length = 144 at o1
  change mg (fsB Ds) 80 = 1 at o2
  change blk_ (mg (fsB Ds)) 144 = true at o3
  change btB (fsB Ds) = 545259519 at o4
  change txP (fsB Ds) 0 = (1, 86, 1, 130, 144) at x1
  change ks_num (mg (fsB Ds)) 130 8 = 5000000000 at x2
  generalize fsB Ds = M at *
  have bV : blV 1 (Bc0 M) := fun i hi => ⟨by show M.length ≤ 1600; omega, by show blk_ (mg M) M.length = true; rw [o1]; exact o3, kM⟩
  have eL : (fsL M).map fiC = [0] := by
    have q := adC_k (n := 1) (B := Bc0 M) (b := 0) (t := 0) bV (by decide) (by decide) (by show 0 < mg M 80; omega) (txP M 0).2.2.1 0 [] (by show 0 + (txP M 0).2.2.1 = (txP M 0).2.2.1; omega) (fun x hx => by cases hx)
    have e : fsL M = adC (Bc0 M) 0 0 (txP M 0).2.2.1 0 [] := by
      unfold fsL
      rw [adC_n (Bc0 M), adC_n (fun _ => (284, M, 0, 0, fsW, false, none))]
      rfl
    rw [e, q, x1]
    rfl
  have eN : (fsL M) = [cnI M 0 0 0] := by
    unfold fsL
    rw [x1]
    rfl
  have fit : fit_b (mg M) M.length (txP M 0).2.2.2.1 (txP M 0).2.2.1 = true := by
    unfold fit_b
    refine decide_eq_true ?_
    rw [x1, o1]
    have e1 : val_ (mg M) 144 130 0 = 5000000000 := x2
    refine ⟨fun i hi => ?_, ?_⟩
    · have : i = 0 := by
        have : i < 1 := hi
        omega
      rw [this, e1]
      decide
    · show sum_ (val_ (mg M) 144 130) 1 ≤ _
      show 0 + val_ (mg M) 144 130 0 ≤ _
      rw [e1]
      decide
  have hR4 := (fs_rcF (b := 0) o1 o2 x1 x2).2.2.2 true
  have eRc : rcF gpG true (Bc0 M) M 0 0 1 0 [] 0 = (0, [0]) := by
    have ag : agB 1 (fsK 0 M) (Bc0 M) := fun i hi => by
      have : i = 0 := by omega
      rw [this]
      exact ⟨rfl, rfl⟩
    have bV2 : blV 1 (fsK 0 M) := fun i hi => by
      have : i = 0 := by omega
      rw [this]
      exact bV 0 (by decide)
    have q := (rcF_l ag bV2 (Gp := gpG) (ck := true) (b := 0) (h := 0) (by decide) 1 0 [] 0 (by show 0 + 1 = mg M 80; omega) (fun x hx => by cases hx)).1
    exact q.trans hR4
  have pt : ptF gpG (Bc0 M) (upP (Bc0 M) 0) [] = (0, [0]) := by
    rw [upP_0]
    have e : ptF gpG (Bc0 M) [0] [] = if (rcF gpG true (Bc0 M) M 0 0 (mg M 80) 0 [] 0).1 = 0 then (0, (rcF gpG true (Bc0 M) M 0 0 (mg M 80) 0 [] 0).2) else ((rcF gpG true (Bc0 M) M 0 0 (mg M 80) 0 [] 0).1, []) := rfl
    rw [e, o2, eRc]
    rfl
  have rel : cRel (Bc0 M) [0] ((fsL M).map fiC) := by
    rw [eL]
    refine ⟨fun i j hi hj _ => ?_, fun i j hi hj _ => ?_, fun x => Iff.rfl⟩
    · have a1 : i < 1 := hi
      have a2 : j < 1 := hj
      omega
    · have a1 : i < 1 := hi
      have a2 : j < 1 := hj
      omega
  refine ⟨⟨by decide, by decide⟩, fun i => ⟨rfl, rfl⟩, ⟨⟨rfl, fun i h1 h2 => by omega⟩, ⟨fun i j h1 h2 h3 => by omega, fun i j c h1 h2 h3 => ?_⟩, fun i c hi hc x hx => ?_, fun b hb => ⟨?_, ?_, fun t ht => ?_⟩, bV, fun i h1 h2 => by omega, fun i h1 h2 => by omega⟩, fun i hi => ⟨?_, ?_, ?_, ?_⟩, fun b hb t h1 h2 => ?_, ⟨fun i hi => rfl, fun i j h1 h2 h3 => by omega⟩, fun i hi => ?_, fun i hi c hc => ?_, ?_, 289, fsL M, rfl, rel⟩
  · have e : c = (289, fsL M) := (Option.some.inj h3).symm
    rw [e]
    exact Or.inr (by decide : 284 + 5 ≤ 289)
  · have e : c = (289, fsL M) := (Option.some.inj hc).symm
    rw [e, eN] at hx
    rw [List.mem_singleton.mp hx]
    exact ⟨0, 0, 0, by decide, by show 0 < mg M 80; omega, by show 0 < (txP M 0).2.2.1; rw [x1]; decide, rfl⟩
  · exact (by decide : 0 < 700)
  · show 0 < mg M 80
    omega
  · change t < mg M 80 at ht
    have : t = 0 := by omega
    rw [this]
    exact fit
  · exact Nat.zero_le i
  · show 2 ^ (254 - 3 * (0 / 8)) ≤ tg_num (btB M)
    rw [o4]
    exact ez_b.1
  · show btB M < 2 ^ 31
    rw [o4]
    decide
  · show fsW ≤ (0 + 1) * 2 ^ 23
    unfold fsW
    have := wk_b ez_b.1 (by decide)
    omega
  · exfalso
    change t < mg M 80 at h2
    omega
  · have : i = 0 := by omega
    rw [this]
    rfl
  · have e : c = (289, fsL M) := (Option.some.inj hc).symm
    have ei : i = 0 := by omega
    rw [ei, e]
    exact ⟨[0], pt, rel⟩
  · intro x
    cases x

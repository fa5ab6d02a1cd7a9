/-! THE JUDGE: naming a draft, finding a nonce -/
def jdO (dc : Nat) (dp : Nat) (dt : Int64) (rs : Int32) : ks_E := .inr (14, [.ref 1, .ref 3, .ref 5, .ref 7, .ref 14, .ref 20, .ref 27, .ref 41, .ref 52, .ref 53, .ref 54, .ref 55, .int (nI dc), .int (nI dp), .long dt, .int rs])
def dfG : Nat → Option Nat := fun i => if i < 12 then some (56 + 19 * i) else none
def dfS (S : ks_S) (Ds : Nat → dTx) : Prop := S.2.2 52 = some (kA 6 12 dfG) ∧ ∀ i, i < 12 → dx_ok S (56 + 19 * i) (Ds i)
theorem dfS.up {S S1 : ks_S} {Ds : Nat → dTx} {L : List Nat} (h : dfS S Ds) (hu : ks_up S S1 L) (hL : ∀ x ∈ L, x < 52 ∨ x = 53 ∨ x = 54 ∨ x = 55 ∨ 283 < x) : dfS S1 Ds := ⟨hu.at h.1 (fun q => by have := hL _ q; omega), fun i hi => (h.2 i hi).up hu (fun x hx => by have := hL x hx; omega)⟩
/-- the ID of a transaction's bytes -/
def txI (D : dTx) : Nat → Nat := twice_ (mg (txL D)) (txL D).length
set_option maxRecDepth 100000 in
set_option maxHeartbeats 800000 in
theorem c_jd_nameDraft {l : Launch} {G : ks_G} {d : Nat} {S : ks_S} {dc dp i y Ny q : Nat} {dt : Int64} {rs : Int32} {Ds : Nat → dTx} {ow : Option (List Nat)} {gy : Nat → Nat} (h0 : S.2.2 0 = some (jdO dc dp dt rs)) (hD : dfS S Ds) (hi : i < 12) (hw : bfS S 5 6 8000 ow) (hh : hsO S) (hK : ks_stOK S) (hy : S.2.2 y = some (kB Ny gy)) (hgy : kO gy) (hq : q + 32 ≤ Ny) (hNy : Ny < 2 ^ 20) (hy3 : y = 53 ∨ y = 54) : ks_P l G yX11_nameDraft mX11_nameDraft (d + 5) [.ref 0, .int (nI i), .ref y, .int (nI q)] S (fun z S' => z = none ∧ ks_up S S' [5, 6, 9, 8, 10, 11, 12, y] ∧ hsO S' ∧ bfS S' 5 6 8000 (some (txL (Ds i))) ∧ S'.2.2 y = some (kB Ny (ks_pt (txI (Ds i)) gy q 32))) := by
  refine ks_of (by decide) rfl rfl (Nat.le_of_ble_eq_true rfl) ?_
  show ks_X l G mX11_nameDraft (d + 5) 0 [(0, .ref 0), (1, .int (nI i)), (2, .ref y), (3, .int (nI q))] [] S _
  have h52 := hD.1
  have h0 : S.2.2 0 = some (.inr (14, [.ref 1, .ref 3, .ref 5, .ref 7, .ref 14, .ref 20, .ref 27, .ref 41, .ref 52, .ref 53, .ref 54, .ref 55, .int (nI dc), .int (nI dp), .long dt, .int rs])) := h0
  obtain ⟨lw, gw, -, -, -, h5, -⟩ := id hw
  refine ks_aload_n dX11_nameDraft_0 rfl rfl ?_
  refine ks_getf (T := TX11) (kf := 2) kx_1055 rfl in_X11 cl_X11 (by decide) h0 rfl dX11_nameDraft_1 rfl ?_
  refine ks_callV (n := 0) (M' := mX1_clear) (bf_clear (d := d + 4) hw) h5 cl_X1 rfl kx_842 kx_843 kx_844 kx_2 kx_845 (by decide +kernel) rfl (by decide) (Nat.le_of_ble_eq_true rfl) rfl dX11_nameDraft_4 rfl (fun z1 T1 y1 => ?_)
  obtain ⟨rfl, w1, B1⟩ := y1
  have a0 := w1.at h0 (by decide)
  have a52 := w1.at h52 (by decide)
  have hx1 := (hD.2 i hi).up w1 (fun x hx => by simp only [List.mem_cons, List.not_mem_nil, or_false] at hx; omega)
  have hle := txL_le hx1
  obtain ⟨xk, xm, xsz, xid, xix, xsq, xvl, xsc, xU, -⟩ := id hx1
  have xO := xU.1
  have hh1 := hh.up w1 (by decide)
  have hy1 := w1.at hy (by simp only [List.mem_cons, List.not_mem_nil, or_false]; omega)
  have K1 := w1.st hK (by unfold ks_B; decide)
  refine ks_aload_n dX11_nameDraft_7 rfl rfl ?_
  refine ks_getf (T := TX11) (kf := 8) kx_1061 rfl in_X11 cl_X11 (by decide) a0 rfl dX11_nameDraft_8 rfl ?_
  refine ks_iload_n dX11_nameDraft_11 rfl rfl ?_
  refine ks_aaldN (i := i) (b := (56 + 19 * i)) (by decide) a52 rfl (by omega) (by decide) (if_pos (by omega)) dX11_nameDraft_12 rfl ?_
  refine ks_aload_n dX11_nameDraft_13 rfl rfl ?_
  refine ks_getf (T := TX11) (kf := 2) kx_1055 rfl in_X11 cl_X11 (by decide) a0 rfl dX11_nameDraft_14 rfl ?_
  refine ks_callV (n := 1) (M' := mX4_write) (c_write (d := d + 2) hx1 (by omega) (by decide) B1 (by rw [List.length_nil]; omega)) xO cl_X4 rfl kx_862 kx_863 kx_864 kx_28 kx_865 (by decide +kernel) rfl (by decide) (Nat.le_of_ble_eq_true rfl) rfl dX11_nameDraft_17 rfl (fun z2 T2 y2 => ?_)
  obtain ⟨rfl, w2, B2⟩ := y2
  rw [List.nil_append] at B2
  obtain ⟨lw2, gw2, kg2, lw8, a6, a5, ⟨hl2, hg2⟩⟩ := id B2
  have b0 := w2.at a0 (by decide)
  have hh2 := hh1.up w2 (by decide)
  have hy2 := w2.at hy1 (by simp only [List.mem_cons, List.not_mem_nil, or_false]; omega)
  have K2 := w2.st K1 (by unfold ks_B; decide)
  have hO7 := hh2.1
  refine ks_aload_n dX11_nameDraft_20 rfl rfl ?_
  refine ks_getf (T := TX11) (kf := 3) kx_1056 rfl in_X11 cl_X11 (by decide) b0 rfl dX11_nameDraft_21 rfl ?_
  refine ks_aload_n dX11_nameDraft_24 rfl rfl ?_
  refine ks_getf (T := TX11) (kf := 2) kx_1055 rfl in_X11 cl_X11 (by decide) b0 rfl dX11_nameDraft_25 rfl ?_
  refine ks_getf (T := TX1) (kf := 0) kx_54 rfl in_X1 cl_X1 (by decide) a5 rfl dX11_nameDraft_28 rfl ?_
  refine ks_iconst (x := nI 0) dX11_nameDraft_31 (by decide) rfl ?_
  refine ks_aload_n dX11_nameDraft_32 rfl rfl ?_
  refine ks_getf (T := TX11) (kf := 2) kx_1055 rfl in_X11 cl_X11 (by decide) b0 rfl dX11_nameDraft_33 rfl ?_
  refine ks_getf (T := TX1) (kf := 1) kx_59 rfl in_X1 cl_X1 (by decide) a5 rfl dX11_nameDraft_36 rfl ?_
  refine ks_aload_n dX11_nameDraft_39 rfl rfl ?_
  refine ks_iload_n dX11_nameDraft_40 rfl rfl ?_
  refine ks_callV (n := 5) (M' := mX6_twice) (c_twice (d := d) hh2 hs_neO (i := 0) (n := lw2) a6 kg2 (by omega) (by decide) hy2 hgy hq (by omega) K2 (by decide) (by omega) (by omega)) hO7 cl_X6 rfl kx_876 kx_877 kx_878 kx_3 kx_879 (by decide +kernel) rfl (by decide) (Nat.le_of_ble_eq_true rfl) rfl dX11_nameDraft_41 rfl (fun z3 T3 y3 => ?_)
  obtain ⟨rfl, w3, hh3, e3⟩ := y3
  refine ks_ret rfl dX11_nameDraft_44 ?_
  have et : twice_ (fun k => gw2 (0 + k)) lw2 = txI (Ds i) := by
    unfold txI
    rw [hl2]
    exact twice_congr (fun k hk => by rw [Nat.zero_add]; exact hg2 k hk)
  rw [et] at e3
  refine ⟨rfl, ?_, hh3, ?_, e3⟩
  · refine ((w1.mono ?_).trans (w2.mono ?_)).trans (w3.mono ?_)
    · intro x hx; simp only [List.mem_cons, List.not_mem_nil, or_false] at hx ⊢; omega
    · intro x hx; simp only [List.mem_cons, List.not_mem_nil, or_false] at hx ⊢; omega
    · intro x hx; simp only [List.mem_cons, List.not_mem_nil, or_false] at hx ⊢; omega
  · exact B2.up w3 (by simp only [List.mem_cons, List.not_mem_nil, or_false]; omega) (by simp only [List.mem_cons, List.not_mem_nil, or_false]; omega)
def sNc (M : List Nat) (i : Nat) : List Nat := (M.set 76 (i % 256)).set 77 (i / 256 % 256)
theorem sNc_len (M : List Nat) (i : Nat) : (sNc M i).length = M.length := by simp [sNc]
theorem sNc_at {M : List Nat} {i j : Nat} (hj : j < M.length) : mg (sNc M i) j = if j = 77 then i / 256 % 256 else if j = 76 then i % 256 else mg M j := by
  unfold mg sNc
  simp only [List.getD, List.getElem?_set, List.length_set]
  by_cases h7 : j = 77
  · subst h7; rw [if_pos rfl, if_pos hj, if_pos rfl]; rfl
  · rw [if_neg (Ne.symm h7), if_neg h7]
    by_cases h6 : j = 76
    · subst h6; rw [if_pos rfl, if_pos hj, if_pos rfl]; rfl
    · rw [if_neg (Ne.symm h6), if_neg h6]
def fnB (M : List Nat) (T i : Nat) : Bool := decide (dg 256 (hsB (sNc M i)) 32 ≤ T)
/-- the nonce that is found, or the last -/
def fnN (M : List Nat) (wn : Bool) (T : Nat) : Nat → Nat → Nat
  | 0, i => i - 1
  | u + 1, i => if fnB M T i = wn then i else fnN M wn T u (i + 1)
set_option maxRecDepth 100000 in
set_option maxHeartbeats 800000 in
theorem c_jd_findNonce {l : Launch} {G : ks_G} {d : Nat} {S : ks_S} {dc dp bt N0 n best : Nat} {cc : Int32} {tk : Int64} {dt : Int64} {rs : Int32} {wn : Bool} {M : List Nat} {gr : Nat → Nat} (h0 : S.2.2 0 = some (jdO dc dp dt rs)) (h41 : S.2.2 41 = some (chO n best cc tk)) (hM : bfS S 3 4 1600 (some M)) (hM80 : 80 ≤ M.length) (hT : tg_ok S N0) (hbt : bt < 2 ^ 32) (hh : hsO S) (hK : ks_stOK S) (h54 : S.2.2 54 = some (kB 32 gr)) (hgr : kO gr) : ks_P l G yX11_findNonce mX11_findNonce (d + 5) [.ref 0, .int (nI bt), .int (ks_bo wn)] S (fun z S' => z = none ∧ ks_up S S' [4, 45, 9, 8, 10, 11, 12, 54] ∧ hsO S' ∧ (∃ N, tg_ok S' N) ∧ (∃ g, kO g ∧ S'.2.2 54 = some (kB 32 g)) ∧ bfS S' 3 4 1600 (some (sNc M (fnN M wn (tg_num bt) 4096 0)))) := by
  have h0 : S.2.2 0 = some (.inr (14, [.ref 1, .ref 3, .ref 5, .ref 7, .ref 14, .ref 20, .ref 27, .ref 41, .ref 52, .ref 53, .ref 54, .ref 55, .int (nI dc), .int (nI dp), .long dt, .int rs])) := h0
  have htl := tg_num_lt bt
  obtain ⟨nn, hnn⟩ : ∃ r, fnN M wn (tg_num bt) 4096 0 = r := ⟨_, rfl⟩
  rw [hnn]
  obtain ⟨T, hTT⟩ : ∃ T, tg_num bt = T := ⟨_, rfl⟩
  rw [hTT] at htl hnn
  have loop : ∀ (u i : Nat) (S1 : ks_S) (len : Nat) (g gr : Nat → Nat), i + u = 4096 → fnN M wn T u i = nn → ks_up S S1 [4, 45, 9, 8, 10, 11, 12, 54] → hsO S1 → tg_ok S1 T → S1.2.2 54 = some (kB 32 gr) → kO gr → S1.2.2 3 = some (.inr (4, [.ref 4, .int (nI len), .int 0])) → S1.2.2 4 = some (kB 1600 g) → kO g → M.length = len → len ≤ 1600 → (∀ j, j < len → j ≠ 76 → j ≠ 77 → g j = mg M j) → (0 < i → ∀ j, j < len → g j = mg (sNc M (i - 1)) j) → ks_X l G mX11_findNonce (d + 5) 17 [(0, .ref 0), (1, .int (nI bt)), (2, .int (ks_bo wn)), (3, .ref 44), (4, .int (nI i))] [] S1 (fun z S' => z = none ∧ ks_up S S' [4, 45, 9, 8, 10, 11, 12, 54] ∧ hsO S' ∧ (∃ N, tg_ok S' N) ∧ (∃ g, kO g ∧ S'.2.2 54 = some (kB 32 g)) ∧ bfS S' 3 4 1600 (some (sNc M nn))) := by
    intro u
    induction u with
    | zero =>
      intro i S1 len g gr hiu hr hu hh1 T1 e54 kgr e3 e4 kg hl hl16 hg hgi
      have a0 := hu.at h0 (by decide)
      have K1 := hu.st hK (by unfold ks_B; decide)
      have O7 := hh1.1
      have O44 := T1.1
      refine ks_iload dX11_findNonce_17 rfl rfl ?_
      refine ks_sipush (x := nI 4096) dX11_findNonce_19 (by decide) rfl ?_
      refine ks_icmp_geN (tgt := 95) (by omega) (by decide) dX11_findNonce_22 (by decide) rfl (fun h1 => ?_) (fun h1 => ?_)
      · refine ks_ret rfl dX11_findNonce_95 ?_
        have e9 : nn = i - 1 := hr.symm
        rw [e9]
        exact ⟨rfl, hu, hh1, ⟨_, T1⟩, ⟨_, kgr, e54⟩, len, g, kg, hl16, e4, e3, by rw [sNc_len]; exact hl, hgi (by omega)⟩
      · omega
    | succ u ih =>
      intro i S1 len g gr hiu hr hu hh1 T1 e54 kgr e3 e4 kg hl hl16 hg hgi
      have a0 := hu.at h0 (by decide)
      have K1 := hu.st hK (by unfold ks_B; decide)
      have O7 := hh1.1
      have O44 := T1.1
      refine ks_iload dX11_findNonce_17 rfl rfl ?_
      refine ks_sipush (x := nI 4096) dX11_findNonce_19 (by decide) rfl ?_
      refine ks_icmp_geN (tgt := 95) (by omega) (by decide) dX11_findNonce_22 (by decide) rfl (fun h1 => ?_) (fun h1 => ?_)
      · omega
      · refine ks_aload_n dX11_findNonce_25 rfl rfl ?_
        refine ks_getf (T := TX11) (kf := 1) kx_1054 rfl in_X11 cl_X11 (by decide) a0 rfl dX11_findNonce_26 rfl ?_
        refine ks_getf (T := TX1) (kf := 0) kx_54 rfl in_X1 cl_X1 (by decide) e3 rfl dX11_findNonce_29 rfl ?_
        refine ks_bipush (x := nI 76) dX11_findNonce_32 (by decide) rfl ?_
        refine ks_iload dX11_findNonce_34 rfl rfl ?_
        refine ks_i2b dX11_findNonce_36 rfl ?_
        refine ks_bastB (i := 76) (c := i % 256) e4 rfl (by decide) (by decide) ((ks_by_i8 _).trans (ks_by_nI _)) dX11_findNonce_37 rfl ?_
        refine ks_aload_n dX11_findNonce_38 rfl rfl ?_
        refine ks_getf (T := TX11) (kf := 1) kx_1054 rfl in_X11 cl_X11 (by decide) ((ks_set_ne _ _ (by decide)).trans a0) rfl dX11_findNonce_39 rfl ?_
        refine ks_getf (T := TX1) (kf := 0) kx_54 rfl in_X1 cl_X1 (by decide) ((ks_set_ne _ _ (by decide)).trans e3) rfl dX11_findNonce_42 rfl ?_
        refine ks_bipush (x := nI 77) dX11_findNonce_45 (by decide) rfl ?_
        refine ks_iload dX11_findNonce_47 rfl rfl ?_
        refine ks_bipush (x := nI 8) dX11_findNonce_49 (by decide) rfl ?_
        refine ks_ushrN (k := 8) (by decide) (by omega) dX11_findNonce_51 rfl ?_
        refine ks_i2b dX11_findNonce_52 rfl ?_
        refine ks_bastB (i := 77) (c := (i / 2 ^ 8) % 256) (ks_set_same _ _ _) rfl (by decide) (by decide) ((ks_by_i8 _).trans (ks_by_nI _)) dX11_findNonce_53 rfl ?_
        obtain ⟨S2, hS2⟩ : ∃ S2, S2 = ks_set (ks_set S1 4 (kB 1600 (va_up g 76 (i % 256)))) 4 (kB 1600 (va_up (va_up g 76 (i % 256)) 77 (i / 2 ^ 8 % 256))) := ⟨_, rfl⟩
        refine ks_tS (S' := S2) hS2.symm ?_
        have w2 : ks_up S1 S2 [4] := by rw [hS2]; exact (ks_up_set _ _ List.mem_cons_self).trans (ks_up_set _ _ List.mem_cons_self)
        have e4b : S2.2.2 4 = some (kB 1600 (va_up (va_up g 76 (i % 256)) 77 (i / 2 ^ 8 % 256))) := by rw [hS2]; exact ks_set_same _ _ _
        have kg2 : kO (va_up (va_up g 76 (i % 256)) 77 (i / 2 ^ 8 % 256)) := kO_up (kO_up kg (by omega)) (by omega)
        have g2e : ∀ j, j < len → va_up (va_up g 76 (i % 256)) 77 (i / 2 ^ 8 % 256) j = mg (sNc M i) j := fun j hj => by
          rw [sNc_at (by omega)]
          by_cases j7 : j = 77
          · subst j7; rw [va_up_self, if_pos rfl]
          · rw [va_up_ne _ _ j7, if_neg j7]
            by_cases j6 : j = 76
            · subst j6; rw [va_up_self, if_pos rfl]
            · rw [va_up_ne _ _ j6, if_neg j6]; exact hg j hj j6 j7
        generalize va_up (va_up g 76 (i % 256)) 77 (i / 2 ^ 8 % 256) = g2 at *
        have u2 := hu.trans (w2.mono (by decide))
        have b0 := w2.at a0 (by decide)
        have hh2 := hh1.up w2 (by decide)
        have T2 := T1.up w2 (by decide) (by decide) (fun h => absurd h (by decide)) (fun h => absurd h (by decide))
        have e54b := w2.at e54 (by decide)
        have e3b := w2.at e3 (by decide)
        have K2 := w2.st K1 (by unfold ks_B; decide)
        have O7b := hh2.1
        refine ks_aload_n dX11_findNonce_54 rfl rfl ?_
        refine ks_getf (T := TX11) (kf := 3) kx_1056 rfl in_X11 cl_X11 (by decide) b0 rfl dX11_findNonce_55 rfl ?_
        refine ks_aload_n dX11_findNonce_58 rfl rfl ?_
        refine ks_getf (T := TX11) (kf := 1) kx_1054 rfl in_X11 cl_X11 (by decide) b0 rfl dX11_findNonce_59 rfl ?_
        refine ks_getf (T := TX1) (kf := 0) kx_54 rfl in_X1 cl_X1 (by decide) e3b rfl dX11_findNonce_62 rfl ?_
        refine ks_iconst (x := nI 0) dX11_findNonce_65 (by decide) rfl ?_
        refine ks_bipush (x := nI 80) dX11_findNonce_66 (by decide) rfl ?_
        refine ks_aload_n dX11_findNonce_68 rfl rfl ?_
        refine ks_getf (T := TX11) (kf := 10) kx_1063 rfl in_X11 cl_X11 (by decide) b0 rfl dX11_findNonce_69 rfl ?_
        refine ks_iconst (x := nI 0) dX11_findNonce_72 (by decide) rfl ?_
        refine ks_callV (n := 5) (M' := mX6_twice) (c_twice (d := d) hh2 hs_neO (i := 0) (n := 80) (oa := 0) e4b kg2 (by decide) (by decide) e54b kgr (by decide) (by decide) K2 (by decide) (by decide) (by decide)) O7b cl_X6 rfl kx_876 kx_877 kx_878 kx_3 kx_879 (by decide +kernel) rfl (by decide) (Nat.le_of_ble_eq_true rfl) rfl dX11_findNonce_73 rfl (fun z3 T3 y3 => ?_)
        obtain ⟨rfl, w3, hh3, e54c⟩ := y3
        have u3 := u2.trans (w3.mono (by decide))
        have c0 := w3.at b0 (by decide)
        have T3' := T2.up w3 (by decide) (by decide) (fun h => absurd h (by decide)) (fun h => absurd h (by decide))
        have e3c := w3.at e3b (by decide)
        have e4c := w3.at e4b (by decide)
        have k54 : kO (ks_pt (twice_ (fun k => g2 (0 + k)) 80) gr 0 32) := kO_pt (kO_twice _ _) kgr 0 32
        have e80 : dg 256 (ks_pt (twice_ (fun k => g2 (0 + k)) 80) gr 0 32) 32 = dg 256 (hsB (sNc M i)) 32 := dg_congr (fun k hk => by
          have e1 := ks_pt_in (twice_ (fun k => g2 (0 + k)) 80) gr 0 32 hk
          rw [Nat.zero_add] at e1
          rw [e1]
          exact congrFun (twice_congr (fun k hk => by rw [Nat.zero_add]; exact g2e k (by omega))) k)
        have O44c := T3'.1
        refine ks_aload_n dX11_findNonce_76 rfl rfl ?_
        refine ks_aload_n dX11_findNonce_77 rfl rfl ?_
        refine ks_getf (T := TX11) (kf := 10) kx_1063 rfl in_X11 cl_X11 (by decide) c0 rfl dX11_findNonce_78 rfl ?_
        refine ks_callV (n := 1) (M' := mX9_isReachedBy) (c_reached (d := d + 4) T3' htl e54c k54 (by decide) (by decide)) O44c cl_X9 rfl kx_922 kx_923 kx_924 kx_27 kx_925 (by decide +kernel) rfl (by decide) (Nat.le_of_ble_eq_true rfl) rfl dX11_findNonce_81 rfl (fun z4 T4 y4 => ?_)
        obtain ⟨rfl, hT4⟩ := y4
        obtain rfl := hT4.symm
        rw [e80, show decide (dg 256 (hsB (sNc M i)) 32 ≤ T) = fnB M T i from rfl]
        rw [fnN] at hr
        refine ks_iload_n dX11_findNonce_84 rfl rfl ?_
        refine ks_icmp_neZ (z := (fnB M T i)) (w := wn) (tgt := 89) dX11_findNonce_85 (by decide) rfl (fun h2 => ?_) (fun h2 => ?_)
        · rw [if_neg h2] at hr
          refine ks_incN (c := 1) (e := i + 1) dX11_findNonce_89 rfl (by decide) rfl (by decide) rfl ?_
          refine ks_sub [(4, _), (0, _), (1, _), (2, _), (3, _)] rfl ?_
          refine ks_goto (tgt := 17) dX11_findNonce_92 (by decide) ?_
          exact ks_sub [(0, _), (1, _), (2, _), (3, _), (4, _)] rfl (ih (i + 1) T3 len g2 _ (by omega) hr u3 hh3 T3' e54c k54 e3c e4c kg2 hl hl16 (fun j hj j6 j7 => by rw [g2e j hj, sNc_at (by omega), if_neg j7, if_neg j6]) (fun _ j hj => g2e j hj))
        · refine ks_ret rfl dX11_findNonce_88 ?_
          rw [if_pos (by first | exact h2 | exact Classical.not_not.mp h2)] at hr
          rw [← hr]
          exact ⟨rfl, u3, hh3, ⟨_, T3'⟩, ⟨_, k54, e54c⟩, len, g2, kg2, hl16, e4c, e3c, by rw [sNc_len]; exact hl, g2e⟩
  refine ks_of (by decide) rfl rfl (Nat.le_of_ble_eq_true rfl) ?_
  show ks_X l G mX11_findNonce (d + 5) 0 [(0, .ref 0), (1, .int (nI bt)), (2, .int (ks_bo wn))] [] S _
  have O44 := hT.1
  obtain ⟨len, g, kg, hl16, e4, e3, ⟨hl, hg⟩⟩ := id hM
  refine ks_aload_n dX11_findNonce_0 rfl rfl ?_
  refine ks_getf (T := TX11) (kf := 7) kx_1060 rfl in_X11 cl_X11 (by decide) h0 rfl dX11_findNonce_1 rfl ?_
  refine ks_getf (T := TX2) (kf := 2) kx_734 rfl in_X2 cl_X2 (by decide) h41 rfl dX11_findNonce_4 rfl ?_
  refine ks_astore_n dX11_findNonce_7 (by decide) rfl ?_
  refine ks_sub [(3, _), (0, _), (1, _), (2, _)] rfl ?_
  refine ks_aload_n dX11_findNonce_8 rfl rfl ?_
  refine ks_iload_n dX11_findNonce_9 rfl rfl ?_
  refine ks_callV (n := 1) (M' := mX9_take) (c_take (d := d + 3) hT hbt) O44 cl_X9 rfl kx_916 kx_917 kx_918 kx_27 kx_919 (by decide +kernel) rfl (by decide) (Nat.le_of_ble_eq_true rfl) rfl dX11_findNonce_10 rfl (fun z1 T1 y1 => ?_)
  obtain ⟨rfl, w1, T1'⟩ := y1
  have eT9 := hTT
  rw [hTT] at T1'
  refine ks_pop dX11_findNonce_13 rfl rfl ?_
  refine ks_iconst (x := nI 0) dX11_findNonce_14 (by decide) rfl ?_
  refine ks_istore dX11_findNonce_15 (by decide) rfl ?_
  refine ks_sub [(4, _), (0, _), (1, _), (2, _), (3, _)] rfl ?_
  exact ks_sub [(0, _), (1, _), (2, _), (3, _), (4, _)] rfl (loop 4096 0 T1 len g gr (by decide) hnn (w1.mono (by decide)) (hh.up w1 (by decide)) T1' (w1.at h54 (by decide)) hgr (w1.at e3 (by decide)) (w1.at e4 (by decide)) kg hl hl16 (fun j hj _ _ => hg j hj) (fun h => absurd h (by decide)))

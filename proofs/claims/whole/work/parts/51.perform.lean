/-! MACHINE: perform, and what signatures and keys are taken -/
def lkB (g : Nat → Nat) (L p e i : Nat) (v : Int) : Bool := decide (0 ≤ v ∧ (v < 500000000 ↔ ks_num g (e - 4) 4 < 500000000) ∧ v ≤ ks_num g (e - 4) 4 ∧ seq_ g L p i ≠ 4294967295)
def pfS (LK : Int → Bool) (op : Nat) (xs ys : List (List Nat)) : Option (List (List Nat) × List (List Nat)) :=
  if op = 79 ∨ (81 ≤ op ∧ op ≤ 96) then some (numI ((op : Int) - 80) :: xs, ys)
  else if 107 ≤ op ∧ op ≤ 125 then mvS op xs ys
  else if 139 ≤ op ∧ op ≤ 165 then rkS op xs ys
  else if op = 105 then vfS xs ys
  else if op = 130 then (if xs.length = 0 then none else some (numI ((xs.getD 0 []).length : Nat) :: xs, ys))
  else if op = 135 then cmS xs ys
  else if op = 136 then (match cmS xs ys with
    | some q => vfS q.1 q.2
    | none => none)
  else if op = 171 then some (xs, ys)
  else if op = 177 then (if (0 < xs.length ∧ (xs.getD 0 []).length ≤ 5) ∧ LK (numV (xs.getD 0 [])) = true then some (xs, ys) else none)
  else if op = 97 ∨ op = 176 ∨ (178 ≤ op ∧ op ≤ 185) then some (xs, ys)
  else none
/-- how much the arena may grow -/
def gB (op : Nat) : Nat := if op ≤ 96 then 1 else 32
abbrev LPf : List Nat := [27, 29, 30, 31, 32, 33, 34, 35]
theorem mcR.up {L : List Nat} {S S1 : ks_S} {u b : Nat} {r : Option (List (List Nat) × List (List Nat))} {z : Option Value} (h : mcR L S u b r z S1) : ks_up S S1 L := by
  cases r with
  | none => exact h.2.1
  | some q => exact h.2.1.1
theorem mcR.L {L L2 : List Nat} {S S1 : ks_S} {u b : Nat} {r : Option (List (List Nat) × List (List Nat))} {z : Option Value} (h : mcR L S u b r z S1) (hL : ∀ a, a ∈ L → a ∈ L2) : mcR L2 S u b r z S1 := by
  cases r with
  | none => exact ⟨h.1, h.2.1.mono hL, h.2.2⟩
  | some q => exact ⟨h.1, ⟨h.2.1.1.mono hL, h.2.1.2⟩, h.2.2⟩
theorem mcR.after {L : List Nat} {S S1 S2 : ks_S} {u u1 b b1 : Nat} {r : Option (List (List Nat) × List (List Nat))} {z : Option Value} (h : stV L S S1 u) (h2 : mcR L S1 u1 b1 r z S2) (h3 : u ≤ u1) (h4 : u1 ≤ u + b) (h5 : b1 = 0) : mcR L S u b r z S2 := by
  cases r with
  | none => exact ⟨h2.1, h.1.trans h2.2.1, h2.2.2⟩
  | some q =>
    obtain ⟨a1, a2, u2, a3, a4, a5⟩ := h2
    exact ⟨a1, h.trans a2 h3, u2, by omega, by omega, a5⟩
theorem sub80 : ∀ {op : Nat}, op < 256 → (nI op - nI 80).toInt64 = iL ((op : Int) - 80) := by
  intro op h
  exact (show ∀ q, q < 256 → (nI q - nI 80).toInt64 = iL ((q : Int) - 80) by decide +kernel) op h
set_option maxRecDepth 100000 in
set_option maxHeartbeats 2000000 in
theorem c_mc_perform {l : Launch} {G : ks_G} {d : Nat} {S : ks_S} {inp cy pa pe pb ops opn cl : Nat} {kT kC sT sC : Int32} (hM : S.2.2 27 = some (mcO inp cy pa pe pb ops opn cl kT kC sT sC)) {xs ys : List (List Nat)} {u : Nat} (hO : st_ok S xs ys u) {op : Nat} {y9 N9 L9 b9 k9 p9 m9 u9 e9 : Nat} {g9 : Nat → Nat} (hV : tv_ok S y9 g9 L9 b9 k9 p9 m9 u9 e9) (hy9 : S.2.2 y9 = some (kB N9 g9)) (hg9 : kO g9) (hL9 : L9 ≤ N9) (hN9 : N9 < 2 ^ 18) (hi9 : inp < k9) (hK : ks_stOK S) (hop : op < 256) (hl : xs.length ≤ 1000) (hly : ys.length ≤ 1000) (hu : u + gB op ≤ 24096) : ks_P l G yX7_perform mX7_perform (d + 4) [.ref 27, .int (nI op)] S (fun z S' => mcR LPf S u (gB op) (pfS (lkB g9 L9 p9 e9 inp) op xs ys) z S' ∧ S'.2.2 27 = some (mcO inp cy pa pe (if op = 171 then pa else pb) ops opn cl kT kC sT sC)) := by
  have bd := hO.bd
  have hgb : (op ≤ 96 ∧ gB op = 1) ∨ (¬ op ≤ 96 ∧ gB op = 32) := by unfold gB; by_cases h : op ≤ 96; exact Or.inl ⟨h, if_pos h⟩; exact Or.inr ⟨h, if_neg h⟩
  have pb_ : ¬ op = 171 → (if op = 171 then pa else pb) = pb := fun h => if_neg h
  refine ks_of (by decide) rfl rfl (Nat.le_of_ble_eq_true rfl) ?_
  show ks_X l G mX7_perform (d + 4) 0 [(0, .ref 27), (1, .int (nI op))] [] S _
  refine ks_iload_n dX7_perform_0 rfl rfl ?_
  refine ks_bipush (x := nI 79) dX7_perform_1 (by decide) rfl ?_
  refine ks_icmp_eqN (tgt := 18) (by omega) (by decide) dX7_perform_3 (by decide) rfl (fun g3 => ?_) (fun g3 => ?_)
  · refine ks_aload_n dX7_perform_18 rfl rfl ?_
    refine ks_getf (T := TX7) (kf := 3) kx_646 rfl in_X7 cl_X7 (by decide) hM rfl dX7_perform_19 rfl ?_
    refine ks_iload_n dX7_perform_22 rfl rfl ?_
    refine ks_bipush (x := nI 80) dX7_perform_23 (by decide) rfl ?_
    refine ks_isub dX7_perform_25 rfl ?_
    refine ks_i2l dX7_perform_26 rfl ?_
    have na : ((op : Int) - 80).natAbs < 128 := by omega
    have nn := nsN_small na
    refine ks_tl (y := iL ((op : Int) - 80)) (sub80 hop) ?_
    refine ks_callV (n := 1) (M' := mX8_addNumber) (c_st_addI (d := d + 1) (v := (op : Int) - 80) hO (by omega) (by omega) (by omega)) hO.ob cl_X8 rfl kx_1657 kx_1658 kx_1659 kx_25 kx_1660 (by decide +kernel) rfl (by decide) (Nat.le_of_ble_eq_true rfl) rfl dX7_perform_27 rfl (fun r1 T1 q1 => ?_)
    obtain ⟨rfl, u1, o1⟩ := q1
    have m1 := u1.1.at hM (by decide)
    refine ks_zret rfl (ks_bo_z _) dX7_perform_30 ?_
    refine ⟨?_, ?_⟩
    · unfold pfS
      rw [if_pos (by omega)]
      exact (mcR.yes u1 (by omega) (by omega) o1).L (by decide)
    · rw [pb_ (by omega)]
      exact m1
  · refine ks_iload_n dX7_perform_6 rfl rfl ?_
    refine ks_bipush (x := nI 81) dX7_perform_7 (by decide) rfl ?_
    refine ks_icmp_ltN (tgt := 31) (by omega) (by decide) dX7_perform_9 (by decide) rfl (fun g9 => ?_) (fun g9 => ?_)
    · refine ks_iload_n dX7_perform_31 rfl rfl ?_
      refine ks_bipush (x := nI 107) dX7_perform_32 (by decide) rfl ?_
      refine ks_icmp_ltN (tgt := 49) (by omega) (by decide) dX7_perform_34 (by decide) rfl (fun g34 => ?_) (fun g34 => ?_)
      · refine ks_iload_n dX7_perform_49 rfl rfl ?_
        refine ks_sipush (x := nI 139) dX7_perform_50 (by decide) rfl ?_
        refine ks_icmp_ltN (tgt := 69) (by omega) (by decide) dX7_perform_53 (by decide) rfl (fun g53 => ?_) (fun g53 => ?_)
        · refine ks_iload_n dX7_perform_69 rfl rfl ?_
          have hsw : op = 105 ∨ op = 130 ∨ op = 135 ∨ op = 136 ∨ op = 171 ∨ op = 177 ∨ (¬ op = 105 ∧ ¬ op = 130 ∧ ¬ op = 135 ∧ ¬ op = 136 ∧ ¬ op = 171 ∧ ¬ op = 177) := by omega
          rcases hsw with rfl | rfl | rfl | rfl | rfl | rfl | hsw
          · refine ks_lookup (off := 58) (tgt := 128) dX7_perform_70 (by decide) (by decide) (by decide) ?_
            have hop := (show 105 < 256 by decide)
            refine ks_aload_n dX7_perform_128 rfl rfl ?_
            refine ks_callV (n := 0) (M' := mX7_verify) (c_mc_verify (d := d + 2) hM hO) hM cl_X7 rfl kx_1700 kx_1702 kxp_47 kx_24 kx_1703 (by decide +kernel) rfl (by decide) (Nat.le_of_ble_eq_true rfl) rfl dX7_perform_129 rfl (fun r3 S3 h3 => ?_)
            obtain ⟨t8, rfl⟩ := mcR.bool h3
            refine ks_zret rfl (ks_bo_z _) dX7_perform_132 ?_
            refine ⟨?_, ?_⟩
            · unfold pfS
              rw [if_neg (by omega), if_neg (by omega), if_neg (by omega), if_pos (by omega)]
              exact (mcR.mono h3 (by omega)).L (by decide)
            · rw [pb_ (by omega)]
              exact (mcR.up h3).at hM (by decide)
          · refine ks_lookup (off := 63) (tgt := 133) dX7_perform_70 (by decide) (by decide) (by decide) ?_
            have hop := (show 130 < 256 by decide)
            refine ks_aload_n dX7_perform_133 rfl rfl ?_
            refine ks_getf (T := TX7) (kf := 3) kx_646 rfl in_X7 cl_X7 (by decide) hM rfl dX7_perform_134 rfl ?_
            refine ks_getf (T := TX8) (kf := 3) kx_615 rfl in_X8 cl_X8 (by decide) hO.ob rfl dX7_perform_137 rfl ?_
            refine ks_if_leN (tgt := 175) (by omega) dX7_perform_140 (by decide) rfl (fun h1 => ?_) (fun h1 => ?_)
            · refine ks_iconst (x := nI 0) dX7_perform_175 (by decide) rfl ?_
              refine ks_zret rfl rfl dX7_perform_176 ?_
              refine ⟨?_, ?_⟩
              · unfold pfS
                rw [if_neg (by omega), if_neg (by omega), if_neg (by omega), if_neg (by omega), if_pos (by omega)]
                rw [if_pos (by omega)]
                exact (mcR.no (ks_up.rf _ _) hO).L (by decide)
              · rw [pb_ (by omega)]
                exact hM
            · obtain ⟨ar, fa, fc, f30, f31, f32, hgr, hel⟩ := hO.rows
              have hk := hel 0 (by omega)
              rw [Nat.sub_zero] at hk
              obtain ⟨hx0, hc0, hb0⟩ := hk
              refine ks_aload_n dX7_perform_143 rfl rfl ?_
              refine ks_getf (T := TX7) (kf := 3) kx_646 rfl in_X7 cl_X7 (by decide) hM rfl dX7_perform_144 rfl ?_
              refine ks_aload_n dX7_perform_147 rfl rfl ?_
              refine ks_getf (T := TX7) (kf := 3) kx_646 rfl in_X7 cl_X7 (by decide) hM rfl dX7_perform_148 rfl ?_
              refine ks_getf (T := TX8) (kf := 2) kx_613 rfl in_X8 cl_X8 (by decide) hO.ob rfl dX7_perform_151 rfl ?_
              refine ks_aload_n dX7_perform_154 rfl rfl ?_
              refine ks_getf (T := TX7) (kf := 3) kx_646 rfl in_X7 cl_X7 (by decide) hM rfl dX7_perform_155 rfl ?_
              refine ks_getf (T := TX8) (kf := 3) kx_615 rfl in_X8 cl_X8 (by decide) hO.ob rfl dX7_perform_158 rfl ?_
              refine ks_iconst (x := nI 1) dX7_perform_161 (by decide) rfl ?_
              refine ks_subN (by omega) dX7_perform_162 rfl ?_
              refine ks_ialdN (i := xs.length - 1) f32 rfl (by omega) (by decide) dX7_perform_163 rfl ?_
              refine ks_i2lN (by omega) dX7_perform_164 rfl ?_
              have nn : nsN (((xs.getD 0 []).length : Nat) : Int).natAbs ≤ 3 := nsN_le (k := 2) (show (xs.getD 0 []).length < 256 ^ 2 by omega)
              refine ks_tl (y := iL (((xs.getD 0 []).length : Nat) : Int)) (by rw [hc0]; rfl) ?_
              refine ks_callV (n := 1) (M' := mX8_addNumber) (c_st_addI (d := d + 1) (v := (((xs.getD 0 []).length : Nat) : Int)) hO (show (xs.getD 0 []).length < 2 ^ 48 by omega) (by omega) (by omega)) hO.ob cl_X8 rfl kx_1657 kx_1658 kx_1659 kx_25 kx_1660 (by decide +kernel) rfl (by decide) (Nat.le_of_ble_eq_true rfl) rfl dX7_perform_165 rfl (fun r1 T1 q1 => ?_)
              obtain ⟨rfl, u1, o1⟩ := q1
              have m1 := u1.1.at hM (by decide)
              refine ks_if_eqZ (tgt := 175) dX7_perform_168 (by decide) rfl (fun h2 => ?_) (fun h2 => ?_)
              · exact absurd h2 (by decide)
              · refine ks_iconst (x := nI 1) dX7_perform_171 (by decide) rfl ?_
                refine ks_goto (tgt := 176) dX7_perform_172 (by decide) ?_
                refine ks_zret rfl rfl dX7_perform_176 ?_
                refine ⟨?_, ?_⟩
                · unfold pfS
                  rw [if_neg (by omega), if_neg (by omega), if_neg (by omega), if_neg (by omega), if_pos (by omega)]
                  rw [if_neg (by omega)]
                  exact (mcR.yes u1 (by omega) (by omega) o1).L (by decide)
                · rw [pb_ (by omega)]
                  exact m1
          · refine ks_lookup (off := 107) (tgt := 177) dX7_perform_70 (by decide) (by decide) (by decide) ?_
            have hop := (show 135 < 256 by decide)
            refine ks_aload_n dX7_perform_177 rfl rfl ?_
            refine ks_callV (n := 0) (M' := mX7_compare) (c_mc_compare (d := d) hM hO (by omega) (by omega)) hM cl_X7 rfl kx_1704 kx_1706 kxp_48 kx_24 kx_1707 (by decide +kernel) rfl (by decide) (Nat.le_of_ble_eq_true rfl) rfl dX7_perform_178 rfl (fun r3 S3 h3 => ?_)
            obtain ⟨t8, rfl⟩ := mcR.bool h3
            refine ks_zret rfl (ks_bo_z _) dX7_perform_181 ?_
            refine ⟨?_, ?_⟩
            · unfold pfS
              rw [if_neg (by omega), if_neg (by omega), if_neg (by omega), if_neg (by omega), if_neg (by omega), if_pos (by omega)]
              exact (mcR.mono h3 (by omega)).L (by decide)
            · rw [pb_ (by omega)]
              exact (mcR.up h3).at hM (by decide)
          · refine ks_lookup (off := 112) (tgt := 182) dX7_perform_70 (by decide) (by decide) (by decide) ?_
            have hop := (show 136 < 256 by decide)
            refine ks_aload_n dX7_perform_182 rfl rfl ?_
            refine ks_callV (n := 0) (M' := mX7_compare) (c_mc_compare (d := d) hM hO (by omega) (by omega)) hM cl_X7 rfl kx_1704 kx_1706 kxp_48 kx_24 kx_1707 (by decide +kernel) rfl (by decide) (Nat.le_of_ble_eq_true rfl) rfl dX7_perform_183 rfl (fun r3 S3 h3 => ?_)
            cases hcm : cmS xs ys with
            | none =>
              rw [hcm] at h3
              obtain ⟨rfl, u3, xs3, ys3, v3, o3⟩ := h3
              refine ks_if_eqZ (tgt := 200) dX7_perform_186 (by decide) rfl (fun g1 => ?_) (fun g1 => ?_)
              · refine ks_iconst (x := nI 0) dX7_perform_200 (by decide) rfl ?_
                refine ks_zret rfl rfl dX7_perform_201 ?_
                refine ⟨?_, ?_⟩
                · unfold pfS
                  rw [if_neg (by omega), if_neg (by omega), if_neg (by omega), if_neg (by omega), if_neg (by omega), if_neg (by omega), if_pos (by omega)]
                  rw [hcm]
                  exact (mcR.no u3 o3).L (by decide)
                · rw [pb_ (by omega)]
                  exact u3.at hM (by decide)
              · exact absurd g1 (by decide)
            | some q3 =>
              rw [hcm] at h3
              obtain ⟨rfl, u3, v3, ha3, hb3, o3⟩ := h3
              have M3 := u3.1.at hM (by decide)
              refine ks_if_eqZ (tgt := 200) dX7_perform_186 (by decide) rfl (fun g1 => ?_) (fun g1 => ?_)
              · exact absurd g1 (by decide)
              · refine ks_aload_n dX7_perform_189 rfl rfl ?_
                refine ks_callV (n := 0) (M' := mX7_verify) (c_mc_verify (d := d + 2) M3 o3) M3 cl_X7 rfl kx_1700 kx_1702 kxp_47 kx_24 kx_1703 (by decide +kernel) rfl (by decide) (Nat.le_of_ble_eq_true rfl) rfl dX7_perform_190 rfl (fun r4 S4 h4 => ?_)
                have h5 : mcR LSt S u 1 (vfS q3.1 q3.2) r4 S4 := mcR.after u3 h4 ha3 hb3 (by omega)
                obtain ⟨t8, rfl⟩ := mcR.bool h5
                refine ks_if_eqZ (tgt := 200) dX7_perform_193 (by decide) rfl (fun g2 => ?_) (fun g2 => ?_)
                · refine ks_iconst (x := nI 0) dX7_perform_200 (by decide) rfl ?_
                  refine ks_zret rfl rfl dX7_perform_201 ?_
                  subst g2
                  refine ⟨?_, ?_⟩
                  · unfold pfS
                    rw [if_neg (by omega), if_neg (by omega), if_neg (by omega), if_neg (by omega), if_neg (by omega), if_neg (by omega), if_pos (by omega)]
                    rw [hcm]
                    exact (mcR.mono h5 (by omega)).L (by decide)
                  · rw [pb_ (by omega)]
                    exact (mcR.up h5).at hM (by decide)
                · refine ks_iconst (x := nI 1) dX7_perform_196 (by decide) rfl ?_
                  refine ks_goto (tgt := 201) dX7_perform_197 (by decide) ?_
                  refine ks_zret rfl rfl dX7_perform_201 ?_
                  subst g2
                  refine ⟨?_, ?_⟩
                  · unfold pfS
                    rw [if_neg (by omega), if_neg (by omega), if_neg (by omega), if_neg (by omega), if_neg (by omega), if_neg (by omega), if_pos (by omega)]
                    rw [hcm]
                    exact (mcR.mono h5 (by omega)).L (by decide)
                  · rw [pb_ (by omega)]
                    exact (mcR.up h5).at hM (by decide)
          · refine ks_lookup (off := 132) (tgt := 202) dX7_perform_70 (by decide) (by decide) (by decide) ?_
            have hop := (show 171 < 256 by decide)
            refine ks_aload_n dX7_perform_202 rfl rfl ?_
            refine ks_aload_n dX7_perform_203 rfl rfl ?_
            refine ks_getf (T := TX7) (kf := 10) kx_653 rfl in_X7 cl_X7 (by decide) hM rfl dX7_perform_204 rfl ?_
            refine ks_putf (T := TX7) (kf := 12) kx_655 rfl in_X7 tyX7_ok nmX7 cl_X7 (by decide) hM (Nat.le_of_ble_eq_true rfl) rfl rfl rfl rfl dX7_perform_207 rfl ?_
            refine ks_iconst (x := nI 1) dX7_perform_210 (by decide) rfl ?_
            refine ks_zret rfl rfl dX7_perform_211 ?_
            refine ⟨?_, ?_⟩
            · unfold pfS
              rw [if_neg (by omega), if_neg (by omega), if_neg (by omega), if_neg (by omega), if_neg (by omega), if_neg (by omega), if_neg (by omega), if_pos (by omega)]
              exact ⟨rfl, stV.of (ks_up_set S (a := 27) _ (L := [27]) (by decide)) (by decide) (by decide), u, by omega, by omega, hO.up (ks_up_set S (a := 27) _ (L := [27]) (by decide)) (by decide)⟩
            · rw [if_pos rfl]
              exact (ks_set_same _ _ _)
          · refine ks_lookup (off := 142) (tgt := 212) dX7_perform_70 (by decide) (by decide) (by decide) ?_
            have hop := (show 177 < 256 by decide)
            refine ks_aload_n dX7_perform_212 rfl rfl ?_
            refine ks_getf (T := TX7) (kf := 3) kx_646 rfl in_X7 cl_X7 (by decide) hM rfl dX7_perform_213 rfl ?_
            refine ks_iconst (x := nI 0) dX7_perform_216 (by decide) rfl ?_
            refine ks_iconst (x := nI 5) dX7_perform_217 (by decide) rfl ?_
            refine ks_callV (n := 2) (M' := mX8_hasNumber) (c_st_hasNumber (d := d + 3) (c := 0) (mo := 5) hO (by decide) (by decide)) hO.ob cl_X8 rfl kx_1596 kx_1597 kx_1598 kx_25 kx_1599 (by decide +kernel) rfl (by decide) (Nat.le_of_ble_eq_true rfl) rfl dX7_perform_218 rfl (fun r1 T1 q1 => ?_)
            obtain ⟨t, rfl, hS1, ht⟩ := q1
            obtain rfl := hS1.symm
            rw [has_iff] at ht
            refine ks_if_eqZ (tgt := 250) dX7_perform_221 (by decide) rfl (fun h1 => ?_) (fun h1 => ?_)
            · refine ks_iconst (x := nI 0) dX7_perform_250 (by decide) rfl ?_
              refine ks_zret rfl rfl dX7_perform_251 ?_
              refine ⟨?_, ?_⟩
              · unfold pfS
                rw [if_neg (by omega), if_neg (by omega), if_neg (by omega), if_neg (by omega), if_neg (by omega), if_neg (by omega), if_neg (by omega), if_neg (by omega), if_pos (by omega)]
                rw [if_neg (fun h => by have := ht.mpr h.1; rw [h1] at this; cases this)]
                exact (mcR.no (ks_up.rf _ _) hO).L (by decide)
              · rw [pb_ (by omega)]
                exact hM
            · have h5 := ht.mp h1
              have vb := (numV_b (hO.byte h5.1) h5.2).2 (by decide)
              have vT : (iL (numV (xs.getD 0 []))).toInt = numV (xs.getD 0 []) := iL_T (by omega) (by omega)
              refine ks_aload_n dX7_perform_224 rfl rfl ?_
              refine ks_getf (T := TX7) (kf := 7) kx_650 rfl in_X7 cl_X7 (by decide) hM rfl dX7_perform_225 rfl ?_
              refine ks_aload_n dX7_perform_228 rfl rfl ?_
              refine ks_getf (T := TX7) (kf := 3) kx_646 rfl in_X7 cl_X7 (by decide) hM rfl dX7_perform_229 rfl ?_
              refine ks_iconst (x := nI 0) dX7_perform_232 (by decide) rfl ?_
              refine ks_callV (n := 1) (M' := mX8_number) (c_st_number (d := d + 3) (c := 0) hO (gD h5.1) h5.2) hO.ob cl_X8 rfl kx_1600 kx_1601 kx_1602 kx_25 kx_1603 (by decide +kernel) rfl (by decide) (Nat.le_of_ble_eq_true rfl) rfl dX7_perform_233 rfl (fun r2 T2 q2 => ?_)
              obtain ⟨rfl, hS2⟩ := q2
              obtain rfl := hS2.symm
              refine ks_aload_n dX7_perform_236 rfl rfl ?_
              refine ks_getf (T := TX7) (kf := 8) kx_651 rfl in_X7 cl_X7 (by decide) hM rfl dX7_perform_237 rfl ?_
              refine ks_callV (n := 2) (M' := mX10_locksUntil) (c_tv_locksUntil (d := d + 1) (q := iL (numV (xs.getD 0 []))) hV hy9 hg9 hL9 hN9 hi9) hV.1 cl_X10 rfl kx_1712 kx_1713 kx_1714 kx_23 kx_1715 (by decide +kernel) rfl (by decide) (Nat.le_of_ble_eq_true rfl) rfl dX7_perform_240 rfl (fun r3 S3 h3 => ?_)
              obtain ⟨t3, rfl, hS3, ht3⟩ := h3
              obtain rfl := hS3.symm
              rw [vT] at ht3
              refine ks_if_eqZ (tgt := 250) dX7_perform_243 (by decide) rfl (fun h2 => ?_) (fun h2 => ?_)
              · refine ks_iconst (x := nI 0) dX7_perform_250 (by decide) rfl ?_
                refine ks_zret rfl rfl dX7_perform_251 ?_
                refine ⟨?_, ?_⟩
                · unfold pfS
                  rw [if_neg (by omega), if_neg (by omega), if_neg (by omega), if_neg (by omega), if_neg (by omega), if_neg (by omega), if_neg (by omega), if_neg (by omega), if_pos (by omega)]
                  rw [if_neg (fun h => by have := ht3.mpr (of_decide_eq_true h.2); rw [h2] at this; cases this)]
                  exact (mcR.no (ks_up.rf _ _) hO).L (by decide)
                · rw [pb_ (by omega)]
                  exact hM
              · refine ks_iconst (x := nI 1) dX7_perform_246 (by decide) rfl ?_
                refine ks_goto (tgt := 251) dX7_perform_247 (by decide) ?_
                refine ks_zret rfl rfl dX7_perform_251 ?_
                refine ⟨?_, ?_⟩
                · unfold pfS
                  rw [if_neg (by omega), if_neg (by omega), if_neg (by omega), if_neg (by omega), if_neg (by omega), if_neg (by omega), if_neg (by omega), if_neg (by omega), if_pos (by omega)]
                  rw [if_pos ⟨h5, decide_eq_true (ht3.mp h2)⟩]
                  exact (mcR.yes (stU.rf _ _) (by omega) (by omega) hO).L (by decide)
                · rw [pb_ (by omega)]
                  exact hM
          · refine ks_lookup (off := 182) (tgt := 252) dX7_perform_70 (by decide) ((show ∀ q, q < 256 → (¬ q = 105 ∧ ¬ q = 130 ∧ ¬ q = 135 ∧ ¬ q = 136 ∧ ¬ q = 171 ∧ ¬ q = 177) → Op.lookupswitch.offset [(105, 58), (130, 63), (135, 107), (136, 112), (171, 132), (177, 142)] 182 (nI q).toInt = 182 by decide +kernel) _ hop hsw) (by decide) ?_
            refine ks_iload_n dX7_perform_252 rfl rfl ?_
            refine ks_bipush (x := nI 97) dX7_perform_253 (by decide) rfl ?_
            refine ks_icmp_eqN (tgt := 279) (by omega) (by decide) dX7_perform_255 (by decide) rfl (fun hc255 => ?_) (fun hc255 => ?_)
            · refine ks_iconst (x := nI 1) dX7_perform_279 (by decide) rfl ?_
              refine ks_goto (tgt := 284) dX7_perform_280 (by decide) ?_
              refine ks_zret rfl rfl dX7_perform_284 ?_
              refine ⟨?_, ?_⟩
              · unfold pfS
                rw [if_neg (by omega), if_neg (by omega), if_neg (by omega), if_neg (by omega), if_neg (by omega), if_neg (by omega), if_neg (by omega), if_neg (by omega), if_neg (by omega), if_pos (by omega)]
                exact (mcR.yes (stU.rf _ _) (by omega) (by omega) hO).L (by decide)
              · rw [pb_ (by omega)]
                exact hM
            · refine ks_iload_n dX7_perform_258 rfl rfl ?_
              refine ks_sipush (x := nI 176) dX7_perform_259 (by decide) rfl ?_
              refine ks_icmp_eqN (tgt := 279) (by omega) (by decide) dX7_perform_262 (by decide) rfl (fun hc262 => ?_) (fun hc262 => ?_)
              · refine ks_iconst (x := nI 1) dX7_perform_279 (by decide) rfl ?_
                refine ks_goto (tgt := 284) dX7_perform_280 (by decide) ?_
                refine ks_zret rfl rfl dX7_perform_284 ?_
                refine ⟨?_, ?_⟩
                · unfold pfS
                  rw [if_neg (by omega), if_neg (by omega), if_neg (by omega), if_neg (by omega), if_neg (by omega), if_neg (by omega), if_neg (by omega), if_neg (by omega), if_neg (by omega), if_pos (by omega)]
                  exact (mcR.yes (stU.rf _ _) (by omega) (by omega) hO).L (by decide)
                · rw [pb_ (by omega)]
                  exact hM
              · refine ks_iload_n dX7_perform_265 rfl rfl ?_
                refine ks_sipush (x := nI 178) dX7_perform_266 (by decide) rfl ?_
                refine ks_icmp_ltN (tgt := 283) (by omega) (by decide) dX7_perform_269 (by decide) rfl (fun hc269 => ?_) (fun hc269 => ?_)
                · refine ks_iconst (x := nI 0) dX7_perform_283 (by decide) rfl ?_
                  refine ks_zret rfl rfl dX7_perform_284 ?_
                  refine ⟨?_, ?_⟩
                  · unfold pfS
                    rw [if_neg (by omega), if_neg (by omega), if_neg (by omega), if_neg (by omega), if_neg (by omega), if_neg (by omega), if_neg (by omega), if_neg (by omega), if_neg (by omega), if_neg (by omega)]
                    exact (mcR.no (ks_up.rf _ _) hO).L (by decide)
                  · rw [pb_ (by omega)]
                    exact hM
                · refine ks_iload_n dX7_perform_272 rfl rfl ?_
                  refine ks_sipush (x := nI 185) dX7_perform_273 (by decide) rfl ?_
                  refine ks_icmp_gtN (tgt := 283) (by omega) (by decide) dX7_perform_276 (by decide) rfl (fun hc276 => ?_) (fun hc276 => ?_)
                  · refine ks_iconst (x := nI 0) dX7_perform_283 (by decide) rfl ?_
                    refine ks_zret rfl rfl dX7_perform_284 ?_
                    refine ⟨?_, ?_⟩
                    · unfold pfS
                      rw [if_neg (by omega), if_neg (by omega), if_neg (by omega), if_neg (by omega), if_neg (by omega), if_neg (by omega), if_neg (by omega), if_neg (by omega), if_neg (by omega), if_neg (by omega)]
                      exact (mcR.no (ks_up.rf _ _) hO).L (by decide)
                    · rw [pb_ (by omega)]
                      exact hM
                  · refine ks_iconst (x := nI 1) dX7_perform_279 (by decide) rfl ?_
                    refine ks_goto (tgt := 284) dX7_perform_280 (by decide) ?_
                    refine ks_zret rfl rfl dX7_perform_284 ?_
                    refine ⟨?_, ?_⟩
                    · unfold pfS
                      rw [if_neg (by omega), if_neg (by omega), if_neg (by omega), if_neg (by omega), if_neg (by omega), if_neg (by omega), if_neg (by omega), if_neg (by omega), if_neg (by omega), if_pos (by omega)]
                      exact (mcR.yes (stU.rf _ _) (by omega) (by omega) hO).L (by decide)
                    · rw [pb_ (by omega)]
                      exact hM
        · refine ks_iload_n dX7_perform_56 rfl rfl ?_
          refine ks_sipush (x := nI 165) dX7_perform_57 (by decide) rfl ?_
          refine ks_icmp_gtN (tgt := 69) (by omega) (by decide) dX7_perform_60 (by decide) rfl (fun g60 => ?_) (fun g60 => ?_)
          · refine ks_iload_n dX7_perform_69 rfl rfl ?_
            have hsw : op = 105 ∨ op = 130 ∨ op = 135 ∨ op = 136 ∨ op = 171 ∨ op = 177 ∨ (¬ op = 105 ∧ ¬ op = 130 ∧ ¬ op = 135 ∧ ¬ op = 136 ∧ ¬ op = 171 ∧ ¬ op = 177) := by omega
            rcases hsw with rfl | rfl | rfl | rfl | rfl | rfl | hsw
            · refine ks_lookup (off := 58) (tgt := 128) dX7_perform_70 (by decide) (by decide) (by decide) ?_
              have hop := (show 105 < 256 by decide)
              refine ks_aload_n dX7_perform_128 rfl rfl ?_
              refine ks_callV (n := 0) (M' := mX7_verify) (c_mc_verify (d := d + 2) hM hO) hM cl_X7 rfl kx_1700 kx_1702 kxp_47 kx_24 kx_1703 (by decide +kernel) rfl (by decide) (Nat.le_of_ble_eq_true rfl) rfl dX7_perform_129 rfl (fun r3 S3 h3 => ?_)
              obtain ⟨t8, rfl⟩ := mcR.bool h3
              refine ks_zret rfl (ks_bo_z _) dX7_perform_132 ?_
              refine ⟨?_, ?_⟩
              · unfold pfS
                rw [if_neg (by omega), if_neg (by omega), if_neg (by omega), if_pos (by omega)]
                exact (mcR.mono h3 (by omega)).L (by decide)
              · rw [pb_ (by omega)]
                exact (mcR.up h3).at hM (by decide)
            · refine ks_lookup (off := 63) (tgt := 133) dX7_perform_70 (by decide) (by decide) (by decide) ?_
              have hop := (show 130 < 256 by decide)
              refine ks_aload_n dX7_perform_133 rfl rfl ?_
              refine ks_getf (T := TX7) (kf := 3) kx_646 rfl in_X7 cl_X7 (by decide) hM rfl dX7_perform_134 rfl ?_
              refine ks_getf (T := TX8) (kf := 3) kx_615 rfl in_X8 cl_X8 (by decide) hO.ob rfl dX7_perform_137 rfl ?_
              refine ks_if_leN (tgt := 175) (by omega) dX7_perform_140 (by decide) rfl (fun h1 => ?_) (fun h1 => ?_)
              · refine ks_iconst (x := nI 0) dX7_perform_175 (by decide) rfl ?_
                refine ks_zret rfl rfl dX7_perform_176 ?_
                refine ⟨?_, ?_⟩
                · unfold pfS
                  rw [if_neg (by omega), if_neg (by omega), if_neg (by omega), if_neg (by omega), if_pos (by omega)]
                  rw [if_pos (by omega)]
                  exact (mcR.no (ks_up.rf _ _) hO).L (by decide)
                · rw [pb_ (by omega)]
                  exact hM
              · obtain ⟨ar, fa, fc, f30, f31, f32, hgr, hel⟩ := hO.rows
                have hk := hel 0 (by omega)
                rw [Nat.sub_zero] at hk
                obtain ⟨hx0, hc0, hb0⟩ := hk
                refine ks_aload_n dX7_perform_143 rfl rfl ?_
                refine ks_getf (T := TX7) (kf := 3) kx_646 rfl in_X7 cl_X7 (by decide) hM rfl dX7_perform_144 rfl ?_
                refine ks_aload_n dX7_perform_147 rfl rfl ?_
                refine ks_getf (T := TX7) (kf := 3) kx_646 rfl in_X7 cl_X7 (by decide) hM rfl dX7_perform_148 rfl ?_
                refine ks_getf (T := TX8) (kf := 2) kx_613 rfl in_X8 cl_X8 (by decide) hO.ob rfl dX7_perform_151 rfl ?_
                refine ks_aload_n dX7_perform_154 rfl rfl ?_
                refine ks_getf (T := TX7) (kf := 3) kx_646 rfl in_X7 cl_X7 (by decide) hM rfl dX7_perform_155 rfl ?_
                refine ks_getf (T := TX8) (kf := 3) kx_615 rfl in_X8 cl_X8 (by decide) hO.ob rfl dX7_perform_158 rfl ?_
                refine ks_iconst (x := nI 1) dX7_perform_161 (by decide) rfl ?_
                refine ks_subN (by omega) dX7_perform_162 rfl ?_
                refine ks_ialdN (i := xs.length - 1) f32 rfl (by omega) (by decide) dX7_perform_163 rfl ?_
                refine ks_i2lN (by omega) dX7_perform_164 rfl ?_
                have nn : nsN (((xs.getD 0 []).length : Nat) : Int).natAbs ≤ 3 := nsN_le (k := 2) (show (xs.getD 0 []).length < 256 ^ 2 by omega)
                refine ks_tl (y := iL (((xs.getD 0 []).length : Nat) : Int)) (by rw [hc0]; rfl) ?_
                refine ks_callV (n := 1) (M' := mX8_addNumber) (c_st_addI (d := d + 1) (v := (((xs.getD 0 []).length : Nat) : Int)) hO (show (xs.getD 0 []).length < 2 ^ 48 by omega) (by omega) (by omega)) hO.ob cl_X8 rfl kx_1657 kx_1658 kx_1659 kx_25 kx_1660 (by decide +kernel) rfl (by decide) (Nat.le_of_ble_eq_true rfl) rfl dX7_perform_165 rfl (fun r1 T1 q1 => ?_)
                obtain ⟨rfl, u1, o1⟩ := q1
                have m1 := u1.1.at hM (by decide)
                refine ks_if_eqZ (tgt := 175) dX7_perform_168 (by decide) rfl (fun h2 => ?_) (fun h2 => ?_)
                · exact absurd h2 (by decide)
                · refine ks_iconst (x := nI 1) dX7_perform_171 (by decide) rfl ?_
                  refine ks_goto (tgt := 176) dX7_perform_172 (by decide) ?_
                  refine ks_zret rfl rfl dX7_perform_176 ?_
                  refine ⟨?_, ?_⟩
                  · unfold pfS
                    rw [if_neg (by omega), if_neg (by omega), if_neg (by omega), if_neg (by omega), if_pos (by omega)]
                    rw [if_neg (by omega)]
                    exact (mcR.yes u1 (by omega) (by omega) o1).L (by decide)
                  · rw [pb_ (by omega)]
                    exact m1
            · refine ks_lookup (off := 107) (tgt := 177) dX7_perform_70 (by decide) (by decide) (by decide) ?_
              have hop := (show 135 < 256 by decide)
              refine ks_aload_n dX7_perform_177 rfl rfl ?_
              refine ks_callV (n := 0) (M' := mX7_compare) (c_mc_compare (d := d) hM hO (by omega) (by omega)) hM cl_X7 rfl kx_1704 kx_1706 kxp_48 kx_24 kx_1707 (by decide +kernel) rfl (by decide) (Nat.le_of_ble_eq_true rfl) rfl dX7_perform_178 rfl (fun r3 S3 h3 => ?_)
              obtain ⟨t8, rfl⟩ := mcR.bool h3
              refine ks_zret rfl (ks_bo_z _) dX7_perform_181 ?_
              refine ⟨?_, ?_⟩
              · unfold pfS
                rw [if_neg (by omega), if_neg (by omega), if_neg (by omega), if_neg (by omega), if_neg (by omega), if_pos (by omega)]
                exact (mcR.mono h3 (by omega)).L (by decide)
              · rw [pb_ (by omega)]
                exact (mcR.up h3).at hM (by decide)
            · refine ks_lookup (off := 112) (tgt := 182) dX7_perform_70 (by decide) (by decide) (by decide) ?_
              have hop := (show 136 < 256 by decide)
              refine ks_aload_n dX7_perform_182 rfl rfl ?_
              refine ks_callV (n := 0) (M' := mX7_compare) (c_mc_compare (d := d) hM hO (by omega) (by omega)) hM cl_X7 rfl kx_1704 kx_1706 kxp_48 kx_24 kx_1707 (by decide +kernel) rfl (by decide) (Nat.le_of_ble_eq_true rfl) rfl dX7_perform_183 rfl (fun r3 S3 h3 => ?_)
              cases hcm : cmS xs ys with
              | none =>
                rw [hcm] at h3
                obtain ⟨rfl, u3, xs3, ys3, v3, o3⟩ := h3
                refine ks_if_eqZ (tgt := 200) dX7_perform_186 (by decide) rfl (fun g1 => ?_) (fun g1 => ?_)
                · refine ks_iconst (x := nI 0) dX7_perform_200 (by decide) rfl ?_
                  refine ks_zret rfl rfl dX7_perform_201 ?_
                  refine ⟨?_, ?_⟩
                  · unfold pfS
                    rw [if_neg (by omega), if_neg (by omega), if_neg (by omega), if_neg (by omega), if_neg (by omega), if_neg (by omega), if_pos (by omega)]
                    rw [hcm]
                    exact (mcR.no u3 o3).L (by decide)
                  · rw [pb_ (by omega)]
                    exact u3.at hM (by decide)
                · exact absurd g1 (by decide)
              | some q3 =>
                rw [hcm] at h3
                obtain ⟨rfl, u3, v3, ha3, hb3, o3⟩ := h3
                have M3 := u3.1.at hM (by decide)
                refine ks_if_eqZ (tgt := 200) dX7_perform_186 (by decide) rfl (fun g1 => ?_) (fun g1 => ?_)
                · exact absurd g1 (by decide)
                · refine ks_aload_n dX7_perform_189 rfl rfl ?_
                  refine ks_callV (n := 0) (M' := mX7_verify) (c_mc_verify (d := d + 2) M3 o3) M3 cl_X7 rfl kx_1700 kx_1702 kxp_47 kx_24 kx_1703 (by decide +kernel) rfl (by decide) (Nat.le_of_ble_eq_true rfl) rfl dX7_perform_190 rfl (fun r4 S4 h4 => ?_)
                  have h5 : mcR LSt S u 1 (vfS q3.1 q3.2) r4 S4 := mcR.after u3 h4 ha3 hb3 (by omega)
                  obtain ⟨t8, rfl⟩ := mcR.bool h5
                  refine ks_if_eqZ (tgt := 200) dX7_perform_193 (by decide) rfl (fun g2 => ?_) (fun g2 => ?_)
                  · refine ks_iconst (x := nI 0) dX7_perform_200 (by decide) rfl ?_
                    refine ks_zret rfl rfl dX7_perform_201 ?_
                    subst g2
                    refine ⟨?_, ?_⟩
                    · unfold pfS
                      rw [if_neg (by omega), if_neg (by omega), if_neg (by omega), if_neg (by omega), if_neg (by omega), if_neg (by omega), if_pos (by omega)]
                      rw [hcm]
                      exact (mcR.mono h5 (by omega)).L (by decide)
                    · rw [pb_ (by omega)]
                      exact (mcR.up h5).at hM (by decide)
                  · refine ks_iconst (x := nI 1) dX7_perform_196 (by decide) rfl ?_
                    refine ks_goto (tgt := 201) dX7_perform_197 (by decide) ?_
                    refine ks_zret rfl rfl dX7_perform_201 ?_
                    subst g2
                    refine ⟨?_, ?_⟩
                    · unfold pfS
                      rw [if_neg (by omega), if_neg (by omega), if_neg (by omega), if_neg (by omega), if_neg (by omega), if_neg (by omega), if_pos (by omega)]
                      rw [hcm]
                      exact (mcR.mono h5 (by omega)).L (by decide)
                    · rw [pb_ (by omega)]
                      exact (mcR.up h5).at hM (by decide)
            · refine ks_lookup (off := 132) (tgt := 202) dX7_perform_70 (by decide) (by decide) (by decide) ?_
              have hop := (show 171 < 256 by decide)
              refine ks_aload_n dX7_perform_202 rfl rfl ?_
              refine ks_aload_n dX7_perform_203 rfl rfl ?_
              refine ks_getf (T := TX7) (kf := 10) kx_653 rfl in_X7 cl_X7 (by decide) hM rfl dX7_perform_204 rfl ?_
              refine ks_putf (T := TX7) (kf := 12) kx_655 rfl in_X7 tyX7_ok nmX7 cl_X7 (by decide) hM (Nat.le_of_ble_eq_true rfl) rfl rfl rfl rfl dX7_perform_207 rfl ?_
              refine ks_iconst (x := nI 1) dX7_perform_210 (by decide) rfl ?_
              refine ks_zret rfl rfl dX7_perform_211 ?_
              refine ⟨?_, ?_⟩
              · unfold pfS
                rw [if_neg (by omega), if_neg (by omega), if_neg (by omega), if_neg (by omega), if_neg (by omega), if_neg (by omega), if_neg (by omega), if_pos (by omega)]
                exact ⟨rfl, stV.of (ks_up_set S (a := 27) _ (L := [27]) (by decide)) (by decide) (by decide), u, by omega, by omega, hO.up (ks_up_set S (a := 27) _ (L := [27]) (by decide)) (by decide)⟩
              · rw [if_pos rfl]
                exact (ks_set_same _ _ _)
            · refine ks_lookup (off := 142) (tgt := 212) dX7_perform_70 (by decide) (by decide) (by decide) ?_
              have hop := (show 177 < 256 by decide)
              refine ks_aload_n dX7_perform_212 rfl rfl ?_
              refine ks_getf (T := TX7) (kf := 3) kx_646 rfl in_X7 cl_X7 (by decide) hM rfl dX7_perform_213 rfl ?_
              refine ks_iconst (x := nI 0) dX7_perform_216 (by decide) rfl ?_
              refine ks_iconst (x := nI 5) dX7_perform_217 (by decide) rfl ?_
              refine ks_callV (n := 2) (M' := mX8_hasNumber) (c_st_hasNumber (d := d + 3) (c := 0) (mo := 5) hO (by decide) (by decide)) hO.ob cl_X8 rfl kx_1596 kx_1597 kx_1598 kx_25 kx_1599 (by decide +kernel) rfl (by decide) (Nat.le_of_ble_eq_true rfl) rfl dX7_perform_218 rfl (fun r1 T1 q1 => ?_)
              obtain ⟨t, rfl, hS1, ht⟩ := q1
              obtain rfl := hS1.symm
              rw [has_iff] at ht
              refine ks_if_eqZ (tgt := 250) dX7_perform_221 (by decide) rfl (fun h1 => ?_) (fun h1 => ?_)
              · refine ks_iconst (x := nI 0) dX7_perform_250 (by decide) rfl ?_
                refine ks_zret rfl rfl dX7_perform_251 ?_
                refine ⟨?_, ?_⟩
                · unfold pfS
                  rw [if_neg (by omega), if_neg (by omega), if_neg (by omega), if_neg (by omega), if_neg (by omega), if_neg (by omega), if_neg (by omega), if_neg (by omega), if_pos (by omega)]
                  rw [if_neg (fun h => by have := ht.mpr h.1; rw [h1] at this; cases this)]
                  exact (mcR.no (ks_up.rf _ _) hO).L (by decide)
                · rw [pb_ (by omega)]
                  exact hM
              · have h5 := ht.mp h1
                have vb := (numV_b (hO.byte h5.1) h5.2).2 (by decide)
                have vT : (iL (numV (xs.getD 0 []))).toInt = numV (xs.getD 0 []) := iL_T (by omega) (by omega)
                refine ks_aload_n dX7_perform_224 rfl rfl ?_
                refine ks_getf (T := TX7) (kf := 7) kx_650 rfl in_X7 cl_X7 (by decide) hM rfl dX7_perform_225 rfl ?_
                refine ks_aload_n dX7_perform_228 rfl rfl ?_
                refine ks_getf (T := TX7) (kf := 3) kx_646 rfl in_X7 cl_X7 (by decide) hM rfl dX7_perform_229 rfl ?_
                refine ks_iconst (x := nI 0) dX7_perform_232 (by decide) rfl ?_
                refine ks_callV (n := 1) (M' := mX8_number) (c_st_number (d := d + 3) (c := 0) hO (gD h5.1) h5.2) hO.ob cl_X8 rfl kx_1600 kx_1601 kx_1602 kx_25 kx_1603 (by decide +kernel) rfl (by decide) (Nat.le_of_ble_eq_true rfl) rfl dX7_perform_233 rfl (fun r2 T2 q2 => ?_)
                obtain ⟨rfl, hS2⟩ := q2
                obtain rfl := hS2.symm
                refine ks_aload_n dX7_perform_236 rfl rfl ?_
                refine ks_getf (T := TX7) (kf := 8) kx_651 rfl in_X7 cl_X7 (by decide) hM rfl dX7_perform_237 rfl ?_
                refine ks_callV (n := 2) (M' := mX10_locksUntil) (c_tv_locksUntil (d := d + 1) (q := iL (numV (xs.getD 0 []))) hV hy9 hg9 hL9 hN9 hi9) hV.1 cl_X10 rfl kx_1712 kx_1713 kx_1714 kx_23 kx_1715 (by decide +kernel) rfl (by decide) (Nat.le_of_ble_eq_true rfl) rfl dX7_perform_240 rfl (fun r3 S3 h3 => ?_)
                obtain ⟨t3, rfl, hS3, ht3⟩ := h3
                obtain rfl := hS3.symm
                rw [vT] at ht3
                refine ks_if_eqZ (tgt := 250) dX7_perform_243 (by decide) rfl (fun h2 => ?_) (fun h2 => ?_)
                · refine ks_iconst (x := nI 0) dX7_perform_250 (by decide) rfl ?_
                  refine ks_zret rfl rfl dX7_perform_251 ?_
                  refine ⟨?_, ?_⟩
                  · unfold pfS
                    rw [if_neg (by omega), if_neg (by omega), if_neg (by omega), if_neg (by omega), if_neg (by omega), if_neg (by omega), if_neg (by omega), if_neg (by omega), if_pos (by omega)]
                    rw [if_neg (fun h => by have := ht3.mpr (of_decide_eq_true h.2); rw [h2] at this; cases this)]
                    exact (mcR.no (ks_up.rf _ _) hO).L (by decide)
                  · rw [pb_ (by omega)]
                    exact hM
                · refine ks_iconst (x := nI 1) dX7_perform_246 (by decide) rfl ?_
                  refine ks_goto (tgt := 251) dX7_perform_247 (by decide) ?_
                  refine ks_zret rfl rfl dX7_perform_251 ?_
                  refine ⟨?_, ?_⟩
                  · unfold pfS
                    rw [if_neg (by omega), if_neg (by omega), if_neg (by omega), if_neg (by omega), if_neg (by omega), if_neg (by omega), if_neg (by omega), if_neg (by omega), if_pos (by omega)]
                    rw [if_pos ⟨h5, decide_eq_true (ht3.mp h2)⟩]
                    exact (mcR.yes (stU.rf _ _) (by omega) (by omega) hO).L (by decide)
                  · rw [pb_ (by omega)]
                    exact hM
            · refine ks_lookup (off := 182) (tgt := 252) dX7_perform_70 (by decide) ((show ∀ q, q < 256 → (¬ q = 105 ∧ ¬ q = 130 ∧ ¬ q = 135 ∧ ¬ q = 136 ∧ ¬ q = 171 ∧ ¬ q = 177) → Op.lookupswitch.offset [(105, 58), (130, 63), (135, 107), (136, 112), (171, 132), (177, 142)] 182 (nI q).toInt = 182 by decide +kernel) _ hop hsw) (by decide) ?_
              refine ks_iload_n dX7_perform_252 rfl rfl ?_
              refine ks_bipush (x := nI 97) dX7_perform_253 (by decide) rfl ?_
              refine ks_icmp_eqN (tgt := 279) (by omega) (by decide) dX7_perform_255 (by decide) rfl (fun hc255 => ?_) (fun hc255 => ?_)
              · refine ks_iconst (x := nI 1) dX7_perform_279 (by decide) rfl ?_
                refine ks_goto (tgt := 284) dX7_perform_280 (by decide) ?_
                refine ks_zret rfl rfl dX7_perform_284 ?_
                refine ⟨?_, ?_⟩
                · unfold pfS
                  rw [if_neg (by omega), if_neg (by omega), if_neg (by omega), if_neg (by omega), if_neg (by omega), if_neg (by omega), if_neg (by omega), if_neg (by omega), if_neg (by omega), if_pos (by omega)]
                  exact (mcR.yes (stU.rf _ _) (by omega) (by omega) hO).L (by decide)
                · rw [pb_ (by omega)]
                  exact hM
              · refine ks_iload_n dX7_perform_258 rfl rfl ?_
                refine ks_sipush (x := nI 176) dX7_perform_259 (by decide) rfl ?_
                refine ks_icmp_eqN (tgt := 279) (by omega) (by decide) dX7_perform_262 (by decide) rfl (fun hc262 => ?_) (fun hc262 => ?_)
                · refine ks_iconst (x := nI 1) dX7_perform_279 (by decide) rfl ?_
                  refine ks_goto (tgt := 284) dX7_perform_280 (by decide) ?_
                  refine ks_zret rfl rfl dX7_perform_284 ?_
                  refine ⟨?_, ?_⟩
                  · unfold pfS
                    rw [if_neg (by omega), if_neg (by omega), if_neg (by omega), if_neg (by omega), if_neg (by omega), if_neg (by omega), if_neg (by omega), if_neg (by omega), if_neg (by omega), if_pos (by omega)]
                    exact (mcR.yes (stU.rf _ _) (by omega) (by omega) hO).L (by decide)
                  · rw [pb_ (by omega)]
                    exact hM
                · refine ks_iload_n dX7_perform_265 rfl rfl ?_
                  refine ks_sipush (x := nI 178) dX7_perform_266 (by decide) rfl ?_
                  refine ks_icmp_ltN (tgt := 283) (by omega) (by decide) dX7_perform_269 (by decide) rfl (fun hc269 => ?_) (fun hc269 => ?_)
                  · refine ks_iconst (x := nI 0) dX7_perform_283 (by decide) rfl ?_
                    refine ks_zret rfl rfl dX7_perform_284 ?_
                    refine ⟨?_, ?_⟩
                    · unfold pfS
                      rw [if_neg (by omega), if_neg (by omega), if_neg (by omega), if_neg (by omega), if_neg (by omega), if_neg (by omega), if_neg (by omega), if_neg (by omega), if_neg (by omega), if_neg (by omega)]
                      exact (mcR.no (ks_up.rf _ _) hO).L (by decide)
                    · rw [pb_ (by omega)]
                      exact hM
                  · refine ks_iload_n dX7_perform_272 rfl rfl ?_
                    refine ks_sipush (x := nI 185) dX7_perform_273 (by decide) rfl ?_
                    refine ks_icmp_gtN (tgt := 283) (by omega) (by decide) dX7_perform_276 (by decide) rfl (fun hc276 => ?_) (fun hc276 => ?_)
                    · refine ks_iconst (x := nI 0) dX7_perform_283 (by decide) rfl ?_
                      refine ks_zret rfl rfl dX7_perform_284 ?_
                      refine ⟨?_, ?_⟩
                      · unfold pfS
                        rw [if_neg (by omega), if_neg (by omega), if_neg (by omega), if_neg (by omega), if_neg (by omega), if_neg (by omega), if_neg (by omega), if_neg (by omega), if_neg (by omega), if_neg (by omega)]
                        exact (mcR.no (ks_up.rf _ _) hO).L (by decide)
                      · rw [pb_ (by omega)]
                        exact hM
                    · refine ks_iconst (x := nI 1) dX7_perform_279 (by decide) rfl ?_
                      refine ks_goto (tgt := 284) dX7_perform_280 (by decide) ?_
                      refine ks_zret rfl rfl dX7_perform_284 ?_
                      refine ⟨?_, ?_⟩
                      · unfold pfS
                        rw [if_neg (by omega), if_neg (by omega), if_neg (by omega), if_neg (by omega), if_neg (by omega), if_neg (by omega), if_neg (by omega), if_neg (by omega), if_neg (by omega), if_pos (by omega)]
                        exact (mcR.yes (stU.rf _ _) (by omega) (by omega) hO).L (by decide)
                      · rw [pb_ (by omega)]
                        exact hM
          · refine ks_aload_n dX7_perform_63 rfl rfl ?_
            refine ks_iload_n dX7_perform_64 rfl rfl ?_
            refine ks_callV (n := 1) (M' := mX7_reckon) (c_mc_reckon (d := d) hM hO (by omega) (by omega) hl (by omega)) hM cl_X7 rfl kx_1687 kx_1689 kxp_46 kx_24 kx_1690 (by decide +kernel) rfl (by decide) (Nat.le_of_ble_eq_true rfl) rfl dX7_perform_65 rfl (fun r3 S3 h3 => ?_)
            obtain ⟨t8, rfl⟩ := mcR.bool h3
            refine ks_zret rfl (ks_bo_z _) dX7_perform_68 ?_
            refine ⟨?_, ?_⟩
            · unfold pfS
              rw [if_neg (by omega), if_neg (by omega), if_pos (by omega)]
              exact (mcR.mono h3 (by omega)).L (by decide)
            · rw [pb_ (by omega)]
              exact (mcR.up h3).at hM (by decide)
      · refine ks_iload_n dX7_perform_37 rfl rfl ?_
        refine ks_bipush (x := nI 125) dX7_perform_38 (by decide) rfl ?_
        refine ks_icmp_gtN (tgt := 49) (by omega) (by decide) dX7_perform_40 (by decide) rfl (fun g40 => ?_) (fun g40 => ?_)
        · refine ks_iload_n dX7_perform_49 rfl rfl ?_
          refine ks_sipush (x := nI 139) dX7_perform_50 (by decide) rfl ?_
          refine ks_icmp_ltN (tgt := 69) (by omega) (by decide) dX7_perform_53 (by decide) rfl (fun g53 => ?_) (fun g53 => ?_)
          · refine ks_iload_n dX7_perform_69 rfl rfl ?_
            have hsw : op = 105 ∨ op = 130 ∨ op = 135 ∨ op = 136 ∨ op = 171 ∨ op = 177 ∨ (¬ op = 105 ∧ ¬ op = 130 ∧ ¬ op = 135 ∧ ¬ op = 136 ∧ ¬ op = 171 ∧ ¬ op = 177) := by omega
            rcases hsw with rfl | rfl | rfl | rfl | rfl | rfl | hsw
            · refine ks_lookup (off := 58) (tgt := 128) dX7_perform_70 (by decide) (by decide) (by decide) ?_
              have hop := (show 105 < 256 by decide)
              refine ks_aload_n dX7_perform_128 rfl rfl ?_
              refine ks_callV (n := 0) (M' := mX7_verify) (c_mc_verify (d := d + 2) hM hO) hM cl_X7 rfl kx_1700 kx_1702 kxp_47 kx_24 kx_1703 (by decide +kernel) rfl (by decide) (Nat.le_of_ble_eq_true rfl) rfl dX7_perform_129 rfl (fun r3 S3 h3 => ?_)
              obtain ⟨t8, rfl⟩ := mcR.bool h3
              refine ks_zret rfl (ks_bo_z _) dX7_perform_132 ?_
              refine ⟨?_, ?_⟩
              · unfold pfS
                rw [if_neg (by omega), if_neg (by omega), if_neg (by omega), if_pos (by omega)]
                exact (mcR.mono h3 (by omega)).L (by decide)
              · rw [pb_ (by omega)]
                exact (mcR.up h3).at hM (by decide)
            · refine ks_lookup (off := 63) (tgt := 133) dX7_perform_70 (by decide) (by decide) (by decide) ?_
              have hop := (show 130 < 256 by decide)
              refine ks_aload_n dX7_perform_133 rfl rfl ?_
              refine ks_getf (T := TX7) (kf := 3) kx_646 rfl in_X7 cl_X7 (by decide) hM rfl dX7_perform_134 rfl ?_
              refine ks_getf (T := TX8) (kf := 3) kx_615 rfl in_X8 cl_X8 (by decide) hO.ob rfl dX7_perform_137 rfl ?_
              refine ks_if_leN (tgt := 175) (by omega) dX7_perform_140 (by decide) rfl (fun h1 => ?_) (fun h1 => ?_)
              · refine ks_iconst (x := nI 0) dX7_perform_175 (by decide) rfl ?_
                refine ks_zret rfl rfl dX7_perform_176 ?_
                refine ⟨?_, ?_⟩
                · unfold pfS
                  rw [if_neg (by omega), if_neg (by omega), if_neg (by omega), if_neg (by omega), if_pos (by omega)]
                  rw [if_pos (by omega)]
                  exact (mcR.no (ks_up.rf _ _) hO).L (by decide)
                · rw [pb_ (by omega)]
                  exact hM
              · obtain ⟨ar, fa, fc, f30, f31, f32, hgr, hel⟩ := hO.rows
                have hk := hel 0 (by omega)
                rw [Nat.sub_zero] at hk
                obtain ⟨hx0, hc0, hb0⟩ := hk
                refine ks_aload_n dX7_perform_143 rfl rfl ?_
                refine ks_getf (T := TX7) (kf := 3) kx_646 rfl in_X7 cl_X7 (by decide) hM rfl dX7_perform_144 rfl ?_
                refine ks_aload_n dX7_perform_147 rfl rfl ?_
                refine ks_getf (T := TX7) (kf := 3) kx_646 rfl in_X7 cl_X7 (by decide) hM rfl dX7_perform_148 rfl ?_
                refine ks_getf (T := TX8) (kf := 2) kx_613 rfl in_X8 cl_X8 (by decide) hO.ob rfl dX7_perform_151 rfl ?_
                refine ks_aload_n dX7_perform_154 rfl rfl ?_
                refine ks_getf (T := TX7) (kf := 3) kx_646 rfl in_X7 cl_X7 (by decide) hM rfl dX7_perform_155 rfl ?_
                refine ks_getf (T := TX8) (kf := 3) kx_615 rfl in_X8 cl_X8 (by decide) hO.ob rfl dX7_perform_158 rfl ?_
                refine ks_iconst (x := nI 1) dX7_perform_161 (by decide) rfl ?_
                refine ks_subN (by omega) dX7_perform_162 rfl ?_
                refine ks_ialdN (i := xs.length - 1) f32 rfl (by omega) (by decide) dX7_perform_163 rfl ?_
                refine ks_i2lN (by omega) dX7_perform_164 rfl ?_
                have nn : nsN (((xs.getD 0 []).length : Nat) : Int).natAbs ≤ 3 := nsN_le (k := 2) (show (xs.getD 0 []).length < 256 ^ 2 by omega)
                refine ks_tl (y := iL (((xs.getD 0 []).length : Nat) : Int)) (by rw [hc0]; rfl) ?_
                refine ks_callV (n := 1) (M' := mX8_addNumber) (c_st_addI (d := d + 1) (v := (((xs.getD 0 []).length : Nat) : Int)) hO (show (xs.getD 0 []).length < 2 ^ 48 by omega) (by omega) (by omega)) hO.ob cl_X8 rfl kx_1657 kx_1658 kx_1659 kx_25 kx_1660 (by decide +kernel) rfl (by decide) (Nat.le_of_ble_eq_true rfl) rfl dX7_perform_165 rfl (fun r1 T1 q1 => ?_)
                obtain ⟨rfl, u1, o1⟩ := q1
                have m1 := u1.1.at hM (by decide)
                refine ks_if_eqZ (tgt := 175) dX7_perform_168 (by decide) rfl (fun h2 => ?_) (fun h2 => ?_)
                · exact absurd h2 (by decide)
                · refine ks_iconst (x := nI 1) dX7_perform_171 (by decide) rfl ?_
                  refine ks_goto (tgt := 176) dX7_perform_172 (by decide) ?_
                  refine ks_zret rfl rfl dX7_perform_176 ?_
                  refine ⟨?_, ?_⟩
                  · unfold pfS
                    rw [if_neg (by omega), if_neg (by omega), if_neg (by omega), if_neg (by omega), if_pos (by omega)]
                    rw [if_neg (by omega)]
                    exact (mcR.yes u1 (by omega) (by omega) o1).L (by decide)
                  · rw [pb_ (by omega)]
                    exact m1
            · refine ks_lookup (off := 107) (tgt := 177) dX7_perform_70 (by decide) (by decide) (by decide) ?_
              have hop := (show 135 < 256 by decide)
              refine ks_aload_n dX7_perform_177 rfl rfl ?_
              refine ks_callV (n := 0) (M' := mX7_compare) (c_mc_compare (d := d) hM hO (by omega) (by omega)) hM cl_X7 rfl kx_1704 kx_1706 kxp_48 kx_24 kx_1707 (by decide +kernel) rfl (by decide) (Nat.le_of_ble_eq_true rfl) rfl dX7_perform_178 rfl (fun r3 S3 h3 => ?_)
              obtain ⟨t8, rfl⟩ := mcR.bool h3
              refine ks_zret rfl (ks_bo_z _) dX7_perform_181 ?_
              refine ⟨?_, ?_⟩
              · unfold pfS
                rw [if_neg (by omega), if_neg (by omega), if_neg (by omega), if_neg (by omega), if_neg (by omega), if_pos (by omega)]
                exact (mcR.mono h3 (by omega)).L (by decide)
              · rw [pb_ (by omega)]
                exact (mcR.up h3).at hM (by decide)
            · refine ks_lookup (off := 112) (tgt := 182) dX7_perform_70 (by decide) (by decide) (by decide) ?_
              have hop := (show 136 < 256 by decide)
              refine ks_aload_n dX7_perform_182 rfl rfl ?_
              refine ks_callV (n := 0) (M' := mX7_compare) (c_mc_compare (d := d) hM hO (by omega) (by omega)) hM cl_X7 rfl kx_1704 kx_1706 kxp_48 kx_24 kx_1707 (by decide +kernel) rfl (by decide) (Nat.le_of_ble_eq_true rfl) rfl dX7_perform_183 rfl (fun r3 S3 h3 => ?_)
              cases hcm : cmS xs ys with
              | none =>
                rw [hcm] at h3
                obtain ⟨rfl, u3, xs3, ys3, v3, o3⟩ := h3
                refine ks_if_eqZ (tgt := 200) dX7_perform_186 (by decide) rfl (fun g1 => ?_) (fun g1 => ?_)
                · refine ks_iconst (x := nI 0) dX7_perform_200 (by decide) rfl ?_
                  refine ks_zret rfl rfl dX7_perform_201 ?_
                  refine ⟨?_, ?_⟩
                  · unfold pfS
                    rw [if_neg (by omega), if_neg (by omega), if_neg (by omega), if_neg (by omega), if_neg (by omega), if_neg (by omega), if_pos (by omega)]
                    rw [hcm]
                    exact (mcR.no u3 o3).L (by decide)
                  · rw [pb_ (by omega)]
                    exact u3.at hM (by decide)
                · exact absurd g1 (by decide)
              | some q3 =>
                rw [hcm] at h3
                obtain ⟨rfl, u3, v3, ha3, hb3, o3⟩ := h3
                have M3 := u3.1.at hM (by decide)
                refine ks_if_eqZ (tgt := 200) dX7_perform_186 (by decide) rfl (fun g1 => ?_) (fun g1 => ?_)
                · exact absurd g1 (by decide)
                · refine ks_aload_n dX7_perform_189 rfl rfl ?_
                  refine ks_callV (n := 0) (M' := mX7_verify) (c_mc_verify (d := d + 2) M3 o3) M3 cl_X7 rfl kx_1700 kx_1702 kxp_47 kx_24 kx_1703 (by decide +kernel) rfl (by decide) (Nat.le_of_ble_eq_true rfl) rfl dX7_perform_190 rfl (fun r4 S4 h4 => ?_)
                  have h5 : mcR LSt S u 1 (vfS q3.1 q3.2) r4 S4 := mcR.after u3 h4 ha3 hb3 (by omega)
                  obtain ⟨t8, rfl⟩ := mcR.bool h5
                  refine ks_if_eqZ (tgt := 200) dX7_perform_193 (by decide) rfl (fun g2 => ?_) (fun g2 => ?_)
                  · refine ks_iconst (x := nI 0) dX7_perform_200 (by decide) rfl ?_
                    refine ks_zret rfl rfl dX7_perform_201 ?_
                    subst g2
                    refine ⟨?_, ?_⟩
                    · unfold pfS
                      rw [if_neg (by omega), if_neg (by omega), if_neg (by omega), if_neg (by omega), if_neg (by omega), if_neg (by omega), if_pos (by omega)]
                      rw [hcm]
                      exact (mcR.mono h5 (by omega)).L (by decide)
                    · rw [pb_ (by omega)]
                      exact (mcR.up h5).at hM (by decide)
                  · refine ks_iconst (x := nI 1) dX7_perform_196 (by decide) rfl ?_
                    refine ks_goto (tgt := 201) dX7_perform_197 (by decide) ?_
                    refine ks_zret rfl rfl dX7_perform_201 ?_
                    subst g2
                    refine ⟨?_, ?_⟩
                    · unfold pfS
                      rw [if_neg (by omega), if_neg (by omega), if_neg (by omega), if_neg (by omega), if_neg (by omega), if_neg (by omega), if_pos (by omega)]
                      rw [hcm]
                      exact (mcR.mono h5 (by omega)).L (by decide)
                    · rw [pb_ (by omega)]
                      exact (mcR.up h5).at hM (by decide)
            · refine ks_lookup (off := 132) (tgt := 202) dX7_perform_70 (by decide) (by decide) (by decide) ?_
              have hop := (show 171 < 256 by decide)
              refine ks_aload_n dX7_perform_202 rfl rfl ?_
              refine ks_aload_n dX7_perform_203 rfl rfl ?_
              refine ks_getf (T := TX7) (kf := 10) kx_653 rfl in_X7 cl_X7 (by decide) hM rfl dX7_perform_204 rfl ?_
              refine ks_putf (T := TX7) (kf := 12) kx_655 rfl in_X7 tyX7_ok nmX7 cl_X7 (by decide) hM (Nat.le_of_ble_eq_true rfl) rfl rfl rfl rfl dX7_perform_207 rfl ?_
              refine ks_iconst (x := nI 1) dX7_perform_210 (by decide) rfl ?_
              refine ks_zret rfl rfl dX7_perform_211 ?_
              refine ⟨?_, ?_⟩
              · unfold pfS
                rw [if_neg (by omega), if_neg (by omega), if_neg (by omega), if_neg (by omega), if_neg (by omega), if_neg (by omega), if_neg (by omega), if_pos (by omega)]
                exact ⟨rfl, stV.of (ks_up_set S (a := 27) _ (L := [27]) (by decide)) (by decide) (by decide), u, by omega, by omega, hO.up (ks_up_set S (a := 27) _ (L := [27]) (by decide)) (by decide)⟩
              · rw [if_pos rfl]
                exact (ks_set_same _ _ _)
            · refine ks_lookup (off := 142) (tgt := 212) dX7_perform_70 (by decide) (by decide) (by decide) ?_
              have hop := (show 177 < 256 by decide)
              refine ks_aload_n dX7_perform_212 rfl rfl ?_
              refine ks_getf (T := TX7) (kf := 3) kx_646 rfl in_X7 cl_X7 (by decide) hM rfl dX7_perform_213 rfl ?_
              refine ks_iconst (x := nI 0) dX7_perform_216 (by decide) rfl ?_
              refine ks_iconst (x := nI 5) dX7_perform_217 (by decide) rfl ?_
              refine ks_callV (n := 2) (M' := mX8_hasNumber) (c_st_hasNumber (d := d + 3) (c := 0) (mo := 5) hO (by decide) (by decide)) hO.ob cl_X8 rfl kx_1596 kx_1597 kx_1598 kx_25 kx_1599 (by decide +kernel) rfl (by decide) (Nat.le_of_ble_eq_true rfl) rfl dX7_perform_218 rfl (fun r1 T1 q1 => ?_)
              obtain ⟨t, rfl, hS1, ht⟩ := q1
              obtain rfl := hS1.symm
              rw [has_iff] at ht
              refine ks_if_eqZ (tgt := 250) dX7_perform_221 (by decide) rfl (fun h1 => ?_) (fun h1 => ?_)
              · refine ks_iconst (x := nI 0) dX7_perform_250 (by decide) rfl ?_
                refine ks_zret rfl rfl dX7_perform_251 ?_
                refine ⟨?_, ?_⟩
                · unfold pfS
                  rw [if_neg (by omega), if_neg (by omega), if_neg (by omega), if_neg (by omega), if_neg (by omega), if_neg (by omega), if_neg (by omega), if_neg (by omega), if_pos (by omega)]
                  rw [if_neg (fun h => by have := ht.mpr h.1; rw [h1] at this; cases this)]
                  exact (mcR.no (ks_up.rf _ _) hO).L (by decide)
                · rw [pb_ (by omega)]
                  exact hM
              · have h5 := ht.mp h1
                have vb := (numV_b (hO.byte h5.1) h5.2).2 (by decide)
                have vT : (iL (numV (xs.getD 0 []))).toInt = numV (xs.getD 0 []) := iL_T (by omega) (by omega)
                refine ks_aload_n dX7_perform_224 rfl rfl ?_
                refine ks_getf (T := TX7) (kf := 7) kx_650 rfl in_X7 cl_X7 (by decide) hM rfl dX7_perform_225 rfl ?_
                refine ks_aload_n dX7_perform_228 rfl rfl ?_
                refine ks_getf (T := TX7) (kf := 3) kx_646 rfl in_X7 cl_X7 (by decide) hM rfl dX7_perform_229 rfl ?_
                refine ks_iconst (x := nI 0) dX7_perform_232 (by decide) rfl ?_
                refine ks_callV (n := 1) (M' := mX8_number) (c_st_number (d := d + 3) (c := 0) hO (gD h5.1) h5.2) hO.ob cl_X8 rfl kx_1600 kx_1601 kx_1602 kx_25 kx_1603 (by decide +kernel) rfl (by decide) (Nat.le_of_ble_eq_true rfl) rfl dX7_perform_233 rfl (fun r2 T2 q2 => ?_)
                obtain ⟨rfl, hS2⟩ := q2
                obtain rfl := hS2.symm
                refine ks_aload_n dX7_perform_236 rfl rfl ?_
                refine ks_getf (T := TX7) (kf := 8) kx_651 rfl in_X7 cl_X7 (by decide) hM rfl dX7_perform_237 rfl ?_
                refine ks_callV (n := 2) (M' := mX10_locksUntil) (c_tv_locksUntil (d := d + 1) (q := iL (numV (xs.getD 0 []))) hV hy9 hg9 hL9 hN9 hi9) hV.1 cl_X10 rfl kx_1712 kx_1713 kx_1714 kx_23 kx_1715 (by decide +kernel) rfl (by decide) (Nat.le_of_ble_eq_true rfl) rfl dX7_perform_240 rfl (fun r3 S3 h3 => ?_)
                obtain ⟨t3, rfl, hS3, ht3⟩ := h3
                obtain rfl := hS3.symm
                rw [vT] at ht3
                refine ks_if_eqZ (tgt := 250) dX7_perform_243 (by decide) rfl (fun h2 => ?_) (fun h2 => ?_)
                · refine ks_iconst (x := nI 0) dX7_perform_250 (by decide) rfl ?_
                  refine ks_zret rfl rfl dX7_perform_251 ?_
                  refine ⟨?_, ?_⟩
                  · unfold pfS
                    rw [if_neg (by omega), if_neg (by omega), if_neg (by omega), if_neg (by omega), if_neg (by omega), if_neg (by omega), if_neg (by omega), if_neg (by omega), if_pos (by omega)]
                    rw [if_neg (fun h => by have := ht3.mpr (of_decide_eq_true h.2); rw [h2] at this; cases this)]
                    exact (mcR.no (ks_up.rf _ _) hO).L (by decide)
                  · rw [pb_ (by omega)]
                    exact hM
                · refine ks_iconst (x := nI 1) dX7_perform_246 (by decide) rfl ?_
                  refine ks_goto (tgt := 251) dX7_perform_247 (by decide) ?_
                  refine ks_zret rfl rfl dX7_perform_251 ?_
                  refine ⟨?_, ?_⟩
                  · unfold pfS
                    rw [if_neg (by omega), if_neg (by omega), if_neg (by omega), if_neg (by omega), if_neg (by omega), if_neg (by omega), if_neg (by omega), if_neg (by omega), if_pos (by omega)]
                    rw [if_pos ⟨h5, decide_eq_true (ht3.mp h2)⟩]
                    exact (mcR.yes (stU.rf _ _) (by omega) (by omega) hO).L (by decide)
                  · rw [pb_ (by omega)]
                    exact hM
            · refine ks_lookup (off := 182) (tgt := 252) dX7_perform_70 (by decide) ((show ∀ q, q < 256 → (¬ q = 105 ∧ ¬ q = 130 ∧ ¬ q = 135 ∧ ¬ q = 136 ∧ ¬ q = 171 ∧ ¬ q = 177) → Op.lookupswitch.offset [(105, 58), (130, 63), (135, 107), (136, 112), (171, 132), (177, 142)] 182 (nI q).toInt = 182 by decide +kernel) _ hop hsw) (by decide) ?_
              refine ks_iload_n dX7_perform_252 rfl rfl ?_
              refine ks_bipush (x := nI 97) dX7_perform_253 (by decide) rfl ?_
              refine ks_icmp_eqN (tgt := 279) (by omega) (by decide) dX7_perform_255 (by decide) rfl (fun hc255 => ?_) (fun hc255 => ?_)
              · refine ks_iconst (x := nI 1) dX7_perform_279 (by decide) rfl ?_
                refine ks_goto (tgt := 284) dX7_perform_280 (by decide) ?_
                refine ks_zret rfl rfl dX7_perform_284 ?_
                refine ⟨?_, ?_⟩
                · unfold pfS
                  rw [if_neg (by omega), if_neg (by omega), if_neg (by omega), if_neg (by omega), if_neg (by omega), if_neg (by omega), if_neg (by omega), if_neg (by omega), if_neg (by omega), if_pos (by omega)]
                  exact (mcR.yes (stU.rf _ _) (by omega) (by omega) hO).L (by decide)
                · rw [pb_ (by omega)]
                  exact hM
              · refine ks_iload_n dX7_perform_258 rfl rfl ?_
                refine ks_sipush (x := nI 176) dX7_perform_259 (by decide) rfl ?_
                refine ks_icmp_eqN (tgt := 279) (by omega) (by decide) dX7_perform_262 (by decide) rfl (fun hc262 => ?_) (fun hc262 => ?_)
                · refine ks_iconst (x := nI 1) dX7_perform_279 (by decide) rfl ?_
                  refine ks_goto (tgt := 284) dX7_perform_280 (by decide) ?_
                  refine ks_zret rfl rfl dX7_perform_284 ?_
                  refine ⟨?_, ?_⟩
                  · unfold pfS
                    rw [if_neg (by omega), if_neg (by omega), if_neg (by omega), if_neg (by omega), if_neg (by omega), if_neg (by omega), if_neg (by omega), if_neg (by omega), if_neg (by omega), if_pos (by omega)]
                    exact (mcR.yes (stU.rf _ _) (by omega) (by omega) hO).L (by decide)
                  · rw [pb_ (by omega)]
                    exact hM
                · refine ks_iload_n dX7_perform_265 rfl rfl ?_
                  refine ks_sipush (x := nI 178) dX7_perform_266 (by decide) rfl ?_
                  refine ks_icmp_ltN (tgt := 283) (by omega) (by decide) dX7_perform_269 (by decide) rfl (fun hc269 => ?_) (fun hc269 => ?_)
                  · refine ks_iconst (x := nI 0) dX7_perform_283 (by decide) rfl ?_
                    refine ks_zret rfl rfl dX7_perform_284 ?_
                    refine ⟨?_, ?_⟩
                    · unfold pfS
                      rw [if_neg (by omega), if_neg (by omega), if_neg (by omega), if_neg (by omega), if_neg (by omega), if_neg (by omega), if_neg (by omega), if_neg (by omega), if_neg (by omega), if_neg (by omega)]
                      exact (mcR.no (ks_up.rf _ _) hO).L (by decide)
                    · rw [pb_ (by omega)]
                      exact hM
                  · refine ks_iload_n dX7_perform_272 rfl rfl ?_
                    refine ks_sipush (x := nI 185) dX7_perform_273 (by decide) rfl ?_
                    refine ks_icmp_gtN (tgt := 283) (by omega) (by decide) dX7_perform_276 (by decide) rfl (fun hc276 => ?_) (fun hc276 => ?_)
                    · refine ks_iconst (x := nI 0) dX7_perform_283 (by decide) rfl ?_
                      refine ks_zret rfl rfl dX7_perform_284 ?_
                      refine ⟨?_, ?_⟩
                      · unfold pfS
                        rw [if_neg (by omega), if_neg (by omega), if_neg (by omega), if_neg (by omega), if_neg (by omega), if_neg (by omega), if_neg (by omega), if_neg (by omega), if_neg (by omega), if_neg (by omega)]
                        exact (mcR.no (ks_up.rf _ _) hO).L (by decide)
                      · rw [pb_ (by omega)]
                        exact hM
                    · refine ks_iconst (x := nI 1) dX7_perform_279 (by decide) rfl ?_
                      refine ks_goto (tgt := 284) dX7_perform_280 (by decide) ?_
                      refine ks_zret rfl rfl dX7_perform_284 ?_
                      refine ⟨?_, ?_⟩
                      · unfold pfS
                        rw [if_neg (by omega), if_neg (by omega), if_neg (by omega), if_neg (by omega), if_neg (by omega), if_neg (by omega), if_neg (by omega), if_neg (by omega), if_neg (by omega), if_pos (by omega)]
                        exact (mcR.yes (stU.rf _ _) (by omega) (by omega) hO).L (by decide)
                      · rw [pb_ (by omega)]
                        exact hM
          · refine ks_iload_n dX7_perform_56 rfl rfl ?_
            refine ks_sipush (x := nI 165) dX7_perform_57 (by decide) rfl ?_
            refine ks_icmp_gtN (tgt := 69) (by omega) (by decide) dX7_perform_60 (by decide) rfl (fun g60 => ?_) (fun g60 => ?_)
            · refine ks_iload_n dX7_perform_69 rfl rfl ?_
              have hsw : op = 105 ∨ op = 130 ∨ op = 135 ∨ op = 136 ∨ op = 171 ∨ op = 177 ∨ (¬ op = 105 ∧ ¬ op = 130 ∧ ¬ op = 135 ∧ ¬ op = 136 ∧ ¬ op = 171 ∧ ¬ op = 177) := by omega
              rcases hsw with rfl | rfl | rfl | rfl | rfl | rfl | hsw
              · refine ks_lookup (off := 58) (tgt := 128) dX7_perform_70 (by decide) (by decide) (by decide) ?_
                have hop := (show 105 < 256 by decide)
                refine ks_aload_n dX7_perform_128 rfl rfl ?_
                refine ks_callV (n := 0) (M' := mX7_verify) (c_mc_verify (d := d + 2) hM hO) hM cl_X7 rfl kx_1700 kx_1702 kxp_47 kx_24 kx_1703 (by decide +kernel) rfl (by decide) (Nat.le_of_ble_eq_true rfl) rfl dX7_perform_129 rfl (fun r3 S3 h3 => ?_)
                obtain ⟨t8, rfl⟩ := mcR.bool h3
                refine ks_zret rfl (ks_bo_z _) dX7_perform_132 ?_
                refine ⟨?_, ?_⟩
                · unfold pfS
                  rw [if_neg (by omega), if_neg (by omega), if_neg (by omega), if_pos (by omega)]
                  exact (mcR.mono h3 (by omega)).L (by decide)
                · rw [pb_ (by omega)]
                  exact (mcR.up h3).at hM (by decide)
              · refine ks_lookup (off := 63) (tgt := 133) dX7_perform_70 (by decide) (by decide) (by decide) ?_
                have hop := (show 130 < 256 by decide)
                refine ks_aload_n dX7_perform_133 rfl rfl ?_
                refine ks_getf (T := TX7) (kf := 3) kx_646 rfl in_X7 cl_X7 (by decide) hM rfl dX7_perform_134 rfl ?_
                refine ks_getf (T := TX8) (kf := 3) kx_615 rfl in_X8 cl_X8 (by decide) hO.ob rfl dX7_perform_137 rfl ?_
                refine ks_if_leN (tgt := 175) (by omega) dX7_perform_140 (by decide) rfl (fun h1 => ?_) (fun h1 => ?_)
                · refine ks_iconst (x := nI 0) dX7_perform_175 (by decide) rfl ?_
                  refine ks_zret rfl rfl dX7_perform_176 ?_
                  refine ⟨?_, ?_⟩
                  · unfold pfS
                    rw [if_neg (by omega), if_neg (by omega), if_neg (by omega), if_neg (by omega), if_pos (by omega)]
                    rw [if_pos (by omega)]
                    exact (mcR.no (ks_up.rf _ _) hO).L (by decide)
                  · rw [pb_ (by omega)]
                    exact hM
                · obtain ⟨ar, fa, fc, f30, f31, f32, hgr, hel⟩ := hO.rows
                  have hk := hel 0 (by omega)
                  rw [Nat.sub_zero] at hk
                  obtain ⟨hx0, hc0, hb0⟩ := hk
                  refine ks_aload_n dX7_perform_143 rfl rfl ?_
                  refine ks_getf (T := TX7) (kf := 3) kx_646 rfl in_X7 cl_X7 (by decide) hM rfl dX7_perform_144 rfl ?_
                  refine ks_aload_n dX7_perform_147 rfl rfl ?_
                  refine ks_getf (T := TX7) (kf := 3) kx_646 rfl in_X7 cl_X7 (by decide) hM rfl dX7_perform_148 rfl ?_
                  refine ks_getf (T := TX8) (kf := 2) kx_613 rfl in_X8 cl_X8 (by decide) hO.ob rfl dX7_perform_151 rfl ?_
                  refine ks_aload_n dX7_perform_154 rfl rfl ?_
                  refine ks_getf (T := TX7) (kf := 3) kx_646 rfl in_X7 cl_X7 (by decide) hM rfl dX7_perform_155 rfl ?_
                  refine ks_getf (T := TX8) (kf := 3) kx_615 rfl in_X8 cl_X8 (by decide) hO.ob rfl dX7_perform_158 rfl ?_
                  refine ks_iconst (x := nI 1) dX7_perform_161 (by decide) rfl ?_
                  refine ks_subN (by omega) dX7_perform_162 rfl ?_
                  refine ks_ialdN (i := xs.length - 1) f32 rfl (by omega) (by decide) dX7_perform_163 rfl ?_
                  refine ks_i2lN (by omega) dX7_perform_164 rfl ?_
                  have nn : nsN (((xs.getD 0 []).length : Nat) : Int).natAbs ≤ 3 := nsN_le (k := 2) (show (xs.getD 0 []).length < 256 ^ 2 by omega)
                  refine ks_tl (y := iL (((xs.getD 0 []).length : Nat) : Int)) (by rw [hc0]; rfl) ?_
                  refine ks_callV (n := 1) (M' := mX8_addNumber) (c_st_addI (d := d + 1) (v := (((xs.getD 0 []).length : Nat) : Int)) hO (show (xs.getD 0 []).length < 2 ^ 48 by omega) (by omega) (by omega)) hO.ob cl_X8 rfl kx_1657 kx_1658 kx_1659 kx_25 kx_1660 (by decide +kernel) rfl (by decide) (Nat.le_of_ble_eq_true rfl) rfl dX7_perform_165 rfl (fun r1 T1 q1 => ?_)
                  obtain ⟨rfl, u1, o1⟩ := q1
                  have m1 := u1.1.at hM (by decide)
                  refine ks_if_eqZ (tgt := 175) dX7_perform_168 (by decide) rfl (fun h2 => ?_) (fun h2 => ?_)
                  · exact absurd h2 (by decide)
                  · refine ks_iconst (x := nI 1) dX7_perform_171 (by decide) rfl ?_
                    refine ks_goto (tgt := 176) dX7_perform_172 (by decide) ?_
                    refine ks_zret rfl rfl dX7_perform_176 ?_
                    refine ⟨?_, ?_⟩
                    · unfold pfS
                      rw [if_neg (by omega), if_neg (by omega), if_neg (by omega), if_neg (by omega), if_pos (by omega)]
                      rw [if_neg (by omega)]
                      exact (mcR.yes u1 (by omega) (by omega) o1).L (by decide)
                    · rw [pb_ (by omega)]
                      exact m1
              · refine ks_lookup (off := 107) (tgt := 177) dX7_perform_70 (by decide) (by decide) (by decide) ?_
                have hop := (show 135 < 256 by decide)
                refine ks_aload_n dX7_perform_177 rfl rfl ?_
                refine ks_callV (n := 0) (M' := mX7_compare) (c_mc_compare (d := d) hM hO (by omega) (by omega)) hM cl_X7 rfl kx_1704 kx_1706 kxp_48 kx_24 kx_1707 (by decide +kernel) rfl (by decide) (Nat.le_of_ble_eq_true rfl) rfl dX7_perform_178 rfl (fun r3 S3 h3 => ?_)
                obtain ⟨t8, rfl⟩ := mcR.bool h3
                refine ks_zret rfl (ks_bo_z _) dX7_perform_181 ?_
                refine ⟨?_, ?_⟩
                · unfold pfS
                  rw [if_neg (by omega), if_neg (by omega), if_neg (by omega), if_neg (by omega), if_neg (by omega), if_pos (by omega)]
                  exact (mcR.mono h3 (by omega)).L (by decide)
                · rw [pb_ (by omega)]
                  exact (mcR.up h3).at hM (by decide)
              · refine ks_lookup (off := 112) (tgt := 182) dX7_perform_70 (by decide) (by decide) (by decide) ?_
                have hop := (show 136 < 256 by decide)
                refine ks_aload_n dX7_perform_182 rfl rfl ?_
                refine ks_callV (n := 0) (M' := mX7_compare) (c_mc_compare (d := d) hM hO (by omega) (by omega)) hM cl_X7 rfl kx_1704 kx_1706 kxp_48 kx_24 kx_1707 (by decide +kernel) rfl (by decide) (Nat.le_of_ble_eq_true rfl) rfl dX7_perform_183 rfl (fun r3 S3 h3 => ?_)
                cases hcm : cmS xs ys with
                | none =>
                  rw [hcm] at h3
                  obtain ⟨rfl, u3, xs3, ys3, v3, o3⟩ := h3
                  refine ks_if_eqZ (tgt := 200) dX7_perform_186 (by decide) rfl (fun g1 => ?_) (fun g1 => ?_)
                  · refine ks_iconst (x := nI 0) dX7_perform_200 (by decide) rfl ?_
                    refine ks_zret rfl rfl dX7_perform_201 ?_
                    refine ⟨?_, ?_⟩
                    · unfold pfS
                      rw [if_neg (by omega), if_neg (by omega), if_neg (by omega), if_neg (by omega), if_neg (by omega), if_neg (by omega), if_pos (by omega)]
                      rw [hcm]
                      exact (mcR.no u3 o3).L (by decide)
                    · rw [pb_ (by omega)]
                      exact u3.at hM (by decide)
                  · exact absurd g1 (by decide)
                | some q3 =>
                  rw [hcm] at h3
                  obtain ⟨rfl, u3, v3, ha3, hb3, o3⟩ := h3
                  have M3 := u3.1.at hM (by decide)
                  refine ks_if_eqZ (tgt := 200) dX7_perform_186 (by decide) rfl (fun g1 => ?_) (fun g1 => ?_)
                  · exact absurd g1 (by decide)
                  · refine ks_aload_n dX7_perform_189 rfl rfl ?_
                    refine ks_callV (n := 0) (M' := mX7_verify) (c_mc_verify (d := d + 2) M3 o3) M3 cl_X7 rfl kx_1700 kx_1702 kxp_47 kx_24 kx_1703 (by decide +kernel) rfl (by decide) (Nat.le_of_ble_eq_true rfl) rfl dX7_perform_190 rfl (fun r4 S4 h4 => ?_)
                    have h5 : mcR LSt S u 1 (vfS q3.1 q3.2) r4 S4 := mcR.after u3 h4 ha3 hb3 (by omega)
                    obtain ⟨t8, rfl⟩ := mcR.bool h5
                    refine ks_if_eqZ (tgt := 200) dX7_perform_193 (by decide) rfl (fun g2 => ?_) (fun g2 => ?_)
                    · refine ks_iconst (x := nI 0) dX7_perform_200 (by decide) rfl ?_
                      refine ks_zret rfl rfl dX7_perform_201 ?_
                      subst g2
                      refine ⟨?_, ?_⟩
                      · unfold pfS
                        rw [if_neg (by omega), if_neg (by omega), if_neg (by omega), if_neg (by omega), if_neg (by omega), if_neg (by omega), if_pos (by omega)]
                        rw [hcm]
                        exact (mcR.mono h5 (by omega)).L (by decide)
                      · rw [pb_ (by omega)]
                        exact (mcR.up h5).at hM (by decide)
                    · refine ks_iconst (x := nI 1) dX7_perform_196 (by decide) rfl ?_
                      refine ks_goto (tgt := 201) dX7_perform_197 (by decide) ?_
                      refine ks_zret rfl rfl dX7_perform_201 ?_
                      subst g2
                      refine ⟨?_, ?_⟩
                      · unfold pfS
                        rw [if_neg (by omega), if_neg (by omega), if_neg (by omega), if_neg (by omega), if_neg (by omega), if_neg (by omega), if_pos (by omega)]
                        rw [hcm]
                        exact (mcR.mono h5 (by omega)).L (by decide)
                      · rw [pb_ (by omega)]
                        exact (mcR.up h5).at hM (by decide)
              · refine ks_lookup (off := 132) (tgt := 202) dX7_perform_70 (by decide) (by decide) (by decide) ?_
                have hop := (show 171 < 256 by decide)
                refine ks_aload_n dX7_perform_202 rfl rfl ?_
                refine ks_aload_n dX7_perform_203 rfl rfl ?_
                refine ks_getf (T := TX7) (kf := 10) kx_653 rfl in_X7 cl_X7 (by decide) hM rfl dX7_perform_204 rfl ?_
                refine ks_putf (T := TX7) (kf := 12) kx_655 rfl in_X7 tyX7_ok nmX7 cl_X7 (by decide) hM (Nat.le_of_ble_eq_true rfl) rfl rfl rfl rfl dX7_perform_207 rfl ?_
                refine ks_iconst (x := nI 1) dX7_perform_210 (by decide) rfl ?_
                refine ks_zret rfl rfl dX7_perform_211 ?_
                refine ⟨?_, ?_⟩
                · unfold pfS
                  rw [if_neg (by omega), if_neg (by omega), if_neg (by omega), if_neg (by omega), if_neg (by omega), if_neg (by omega), if_neg (by omega), if_pos (by omega)]
                  exact ⟨rfl, stV.of (ks_up_set S (a := 27) _ (L := [27]) (by decide)) (by decide) (by decide), u, by omega, by omega, hO.up (ks_up_set S (a := 27) _ (L := [27]) (by decide)) (by decide)⟩
                · rw [if_pos rfl]
                  exact (ks_set_same _ _ _)
              · refine ks_lookup (off := 142) (tgt := 212) dX7_perform_70 (by decide) (by decide) (by decide) ?_
                have hop := (show 177 < 256 by decide)
                refine ks_aload_n dX7_perform_212 rfl rfl ?_
                refine ks_getf (T := TX7) (kf := 3) kx_646 rfl in_X7 cl_X7 (by decide) hM rfl dX7_perform_213 rfl ?_
                refine ks_iconst (x := nI 0) dX7_perform_216 (by decide) rfl ?_
                refine ks_iconst (x := nI 5) dX7_perform_217 (by decide) rfl ?_
                refine ks_callV (n := 2) (M' := mX8_hasNumber) (c_st_hasNumber (d := d + 3) (c := 0) (mo := 5) hO (by decide) (by decide)) hO.ob cl_X8 rfl kx_1596 kx_1597 kx_1598 kx_25 kx_1599 (by decide +kernel) rfl (by decide) (Nat.le_of_ble_eq_true rfl) rfl dX7_perform_218 rfl (fun r1 T1 q1 => ?_)
                obtain ⟨t, rfl, hS1, ht⟩ := q1
                obtain rfl := hS1.symm
                rw [has_iff] at ht
                refine ks_if_eqZ (tgt := 250) dX7_perform_221 (by decide) rfl (fun h1 => ?_) (fun h1 => ?_)
                · refine ks_iconst (x := nI 0) dX7_perform_250 (by decide) rfl ?_
                  refine ks_zret rfl rfl dX7_perform_251 ?_
                  refine ⟨?_, ?_⟩
                  · unfold pfS
                    rw [if_neg (by omega), if_neg (by omega), if_neg (by omega), if_neg (by omega), if_neg (by omega), if_neg (by omega), if_neg (by omega), if_neg (by omega), if_pos (by omega)]
                    rw [if_neg (fun h => by have := ht.mpr h.1; rw [h1] at this; cases this)]
                    exact (mcR.no (ks_up.rf _ _) hO).L (by decide)
                  · rw [pb_ (by omega)]
                    exact hM
                · have h5 := ht.mp h1
                  have vb := (numV_b (hO.byte h5.1) h5.2).2 (by decide)
                  have vT : (iL (numV (xs.getD 0 []))).toInt = numV (xs.getD 0 []) := iL_T (by omega) (by omega)
                  refine ks_aload_n dX7_perform_224 rfl rfl ?_
                  refine ks_getf (T := TX7) (kf := 7) kx_650 rfl in_X7 cl_X7 (by decide) hM rfl dX7_perform_225 rfl ?_
                  refine ks_aload_n dX7_perform_228 rfl rfl ?_
                  refine ks_getf (T := TX7) (kf := 3) kx_646 rfl in_X7 cl_X7 (by decide) hM rfl dX7_perform_229 rfl ?_
                  refine ks_iconst (x := nI 0) dX7_perform_232 (by decide) rfl ?_
                  refine ks_callV (n := 1) (M' := mX8_number) (c_st_number (d := d + 3) (c := 0) hO (gD h5.1) h5.2) hO.ob cl_X8 rfl kx_1600 kx_1601 kx_1602 kx_25 kx_1603 (by decide +kernel) rfl (by decide) (Nat.le_of_ble_eq_true rfl) rfl dX7_perform_233 rfl (fun r2 T2 q2 => ?_)
                  obtain ⟨rfl, hS2⟩ := q2
                  obtain rfl := hS2.symm
                  refine ks_aload_n dX7_perform_236 rfl rfl ?_
                  refine ks_getf (T := TX7) (kf := 8) kx_651 rfl in_X7 cl_X7 (by decide) hM rfl dX7_perform_237 rfl ?_
                  refine ks_callV (n := 2) (M' := mX10_locksUntil) (c_tv_locksUntil (d := d + 1) (q := iL (numV (xs.getD 0 []))) hV hy9 hg9 hL9 hN9 hi9) hV.1 cl_X10 rfl kx_1712 kx_1713 kx_1714 kx_23 kx_1715 (by decide +kernel) rfl (by decide) (Nat.le_of_ble_eq_true rfl) rfl dX7_perform_240 rfl (fun r3 S3 h3 => ?_)
                  obtain ⟨t3, rfl, hS3, ht3⟩ := h3
                  obtain rfl := hS3.symm
                  rw [vT] at ht3
                  refine ks_if_eqZ (tgt := 250) dX7_perform_243 (by decide) rfl (fun h2 => ?_) (fun h2 => ?_)
                  · refine ks_iconst (x := nI 0) dX7_perform_250 (by decide) rfl ?_
                    refine ks_zret rfl rfl dX7_perform_251 ?_
                    refine ⟨?_, ?_⟩
                    · unfold pfS
                      rw [if_neg (by omega), if_neg (by omega), if_neg (by omega), if_neg (by omega), if_neg (by omega), if_neg (by omega), if_neg (by omega), if_neg (by omega), if_pos (by omega)]
                      rw [if_neg (fun h => by have := ht3.mpr (of_decide_eq_true h.2); rw [h2] at this; cases this)]
                      exact (mcR.no (ks_up.rf _ _) hO).L (by decide)
                    · rw [pb_ (by omega)]
                      exact hM
                  · refine ks_iconst (x := nI 1) dX7_perform_246 (by decide) rfl ?_
                    refine ks_goto (tgt := 251) dX7_perform_247 (by decide) ?_
                    refine ks_zret rfl rfl dX7_perform_251 ?_
                    refine ⟨?_, ?_⟩
                    · unfold pfS
                      rw [if_neg (by omega), if_neg (by omega), if_neg (by omega), if_neg (by omega), if_neg (by omega), if_neg (by omega), if_neg (by omega), if_neg (by omega), if_pos (by omega)]
                      rw [if_pos ⟨h5, decide_eq_true (ht3.mp h2)⟩]
                      exact (mcR.yes (stU.rf _ _) (by omega) (by omega) hO).L (by decide)
                    · rw [pb_ (by omega)]
                      exact hM
              · refine ks_lookup (off := 182) (tgt := 252) dX7_perform_70 (by decide) ((show ∀ q, q < 256 → (¬ q = 105 ∧ ¬ q = 130 ∧ ¬ q = 135 ∧ ¬ q = 136 ∧ ¬ q = 171 ∧ ¬ q = 177) → Op.lookupswitch.offset [(105, 58), (130, 63), (135, 107), (136, 112), (171, 132), (177, 142)] 182 (nI q).toInt = 182 by decide +kernel) _ hop hsw) (by decide) ?_
                refine ks_iload_n dX7_perform_252 rfl rfl ?_
                refine ks_bipush (x := nI 97) dX7_perform_253 (by decide) rfl ?_
                refine ks_icmp_eqN (tgt := 279) (by omega) (by decide) dX7_perform_255 (by decide) rfl (fun hc255 => ?_) (fun hc255 => ?_)
                · refine ks_iconst (x := nI 1) dX7_perform_279 (by decide) rfl ?_
                  refine ks_goto (tgt := 284) dX7_perform_280 (by decide) ?_
                  refine ks_zret rfl rfl dX7_perform_284 ?_
                  refine ⟨?_, ?_⟩
                  · unfold pfS
                    rw [if_neg (by omega), if_neg (by omega), if_neg (by omega), if_neg (by omega), if_neg (by omega), if_neg (by omega), if_neg (by omega), if_neg (by omega), if_neg (by omega), if_pos (by omega)]
                    exact (mcR.yes (stU.rf _ _) (by omega) (by omega) hO).L (by decide)
                  · rw [pb_ (by omega)]
                    exact hM
                · refine ks_iload_n dX7_perform_258 rfl rfl ?_
                  refine ks_sipush (x := nI 176) dX7_perform_259 (by decide) rfl ?_
                  refine ks_icmp_eqN (tgt := 279) (by omega) (by decide) dX7_perform_262 (by decide) rfl (fun hc262 => ?_) (fun hc262 => ?_)
                  · refine ks_iconst (x := nI 1) dX7_perform_279 (by decide) rfl ?_
                    refine ks_goto (tgt := 284) dX7_perform_280 (by decide) ?_
                    refine ks_zret rfl rfl dX7_perform_284 ?_
                    refine ⟨?_, ?_⟩
                    · unfold pfS
                      rw [if_neg (by omega), if_neg (by omega), if_neg (by omega), if_neg (by omega), if_neg (by omega), if_neg (by omega), if_neg (by omega), if_neg (by omega), if_neg (by omega), if_pos (by omega)]
                      exact (mcR.yes (stU.rf _ _) (by omega) (by omega) hO).L (by decide)
                    · rw [pb_ (by omega)]
                      exact hM
                  · refine ks_iload_n dX7_perform_265 rfl rfl ?_
                    refine ks_sipush (x := nI 178) dX7_perform_266 (by decide) rfl ?_
                    refine ks_icmp_ltN (tgt := 283) (by omega) (by decide) dX7_perform_269 (by decide) rfl (fun hc269 => ?_) (fun hc269 => ?_)
                    · refine ks_iconst (x := nI 0) dX7_perform_283 (by decide) rfl ?_
                      refine ks_zret rfl rfl dX7_perform_284 ?_
                      refine ⟨?_, ?_⟩
                      · unfold pfS
                        rw [if_neg (by omega), if_neg (by omega), if_neg (by omega), if_neg (by omega), if_neg (by omega), if_neg (by omega), if_neg (by omega), if_neg (by omega), if_neg (by omega), if_neg (by omega)]
                        exact (mcR.no (ks_up.rf _ _) hO).L (by decide)
                      · rw [pb_ (by omega)]
                        exact hM
                    · refine ks_iload_n dX7_perform_272 rfl rfl ?_
                      refine ks_sipush (x := nI 185) dX7_perform_273 (by decide) rfl ?_
                      refine ks_icmp_gtN (tgt := 283) (by omega) (by decide) dX7_perform_276 (by decide) rfl (fun hc276 => ?_) (fun hc276 => ?_)
                      · refine ks_iconst (x := nI 0) dX7_perform_283 (by decide) rfl ?_
                        refine ks_zret rfl rfl dX7_perform_284 ?_
                        refine ⟨?_, ?_⟩
                        · unfold pfS
                          rw [if_neg (by omega), if_neg (by omega), if_neg (by omega), if_neg (by omega), if_neg (by omega), if_neg (by omega), if_neg (by omega), if_neg (by omega), if_neg (by omega), if_neg (by omega)]
                          exact (mcR.no (ks_up.rf _ _) hO).L (by decide)
                        · rw [pb_ (by omega)]
                          exact hM
                      · refine ks_iconst (x := nI 1) dX7_perform_279 (by decide) rfl ?_
                        refine ks_goto (tgt := 284) dX7_perform_280 (by decide) ?_
                        refine ks_zret rfl rfl dX7_perform_284 ?_
                        refine ⟨?_, ?_⟩
                        · unfold pfS
                          rw [if_neg (by omega), if_neg (by omega), if_neg (by omega), if_neg (by omega), if_neg (by omega), if_neg (by omega), if_neg (by omega), if_neg (by omega), if_neg (by omega), if_pos (by omega)]
                          exact (mcR.yes (stU.rf _ _) (by omega) (by omega) hO).L (by decide)
                        · rw [pb_ (by omega)]
                          exact hM
            · refine ks_aload_n dX7_perform_63 rfl rfl ?_
              refine ks_iload_n dX7_perform_64 rfl rfl ?_
              refine ks_callV (n := 1) (M' := mX7_reckon) (c_mc_reckon (d := d) hM hO (by omega) (by omega) hl (by omega)) hM cl_X7 rfl kx_1687 kx_1689 kxp_46 kx_24 kx_1690 (by decide +kernel) rfl (by decide) (Nat.le_of_ble_eq_true rfl) rfl dX7_perform_65 rfl (fun r3 S3 h3 => ?_)
              obtain ⟨t8, rfl⟩ := mcR.bool h3
              refine ks_zret rfl (ks_bo_z _) dX7_perform_68 ?_
              refine ⟨?_, ?_⟩
              · unfold pfS
                rw [if_neg (by omega), if_neg (by omega), if_pos (by omega)]
                exact (mcR.mono h3 (by omega)).L (by decide)
              · rw [pb_ (by omega)]
                exact (mcR.up h3).at hM (by decide)
        · refine ks_aload_n dX7_perform_43 rfl rfl ?_
          refine ks_iload_n dX7_perform_44 rfl rfl ?_
          refine ks_callV (n := 1) (M' := mX7_move) (c_mc_move (d := d) hM hO hK (by omega) (by omega) hl hly (by omega)) hM cl_X7 rfl kx_1661 kx_1663 kxp_44 kx_24 kx_1664 (by decide +kernel) rfl (by decide) (Nat.le_of_ble_eq_true rfl) rfl dX7_perform_45 rfl (fun r3 S3 h3 => ?_)
          obtain ⟨t8, rfl⟩ := mcR.bool h3
          refine ks_zret rfl (ks_bo_z _) dX7_perform_48 ?_
          refine ⟨?_, ?_⟩
          · unfold pfS
            rw [if_neg (by omega), if_pos (by omega)]
            exact (mcR.mono h3 (by omega)).L (by decide)
          · rw [pb_ (by omega)]
            exact (mcR.up h3).at hM (by decide)
    · refine ks_iload_n dX7_perform_12 rfl rfl ?_
      refine ks_bipush (x := nI 96) dX7_perform_13 (by decide) rfl ?_
      refine ks_icmp_gtN (tgt := 31) (by omega) (by decide) dX7_perform_15 (by decide) rfl (fun g15 => ?_) (fun g15 => ?_)
      · refine ks_iload_n dX7_perform_31 rfl rfl ?_
        refine ks_bipush (x := nI 107) dX7_perform_32 (by decide) rfl ?_
        refine ks_icmp_ltN (tgt := 49) (by omega) (by decide) dX7_perform_34 (by decide) rfl (fun g34 => ?_) (fun g34 => ?_)
        · refine ks_iload_n dX7_perform_49 rfl rfl ?_
          refine ks_sipush (x := nI 139) dX7_perform_50 (by decide) rfl ?_
          refine ks_icmp_ltN (tgt := 69) (by omega) (by decide) dX7_perform_53 (by decide) rfl (fun g53 => ?_) (fun g53 => ?_)
          · refine ks_iload_n dX7_perform_69 rfl rfl ?_
            have hsw : op = 105 ∨ op = 130 ∨ op = 135 ∨ op = 136 ∨ op = 171 ∨ op = 177 ∨ (¬ op = 105 ∧ ¬ op = 130 ∧ ¬ op = 135 ∧ ¬ op = 136 ∧ ¬ op = 171 ∧ ¬ op = 177) := by omega
            rcases hsw with rfl | rfl | rfl | rfl | rfl | rfl | hsw
            · refine ks_lookup (off := 58) (tgt := 128) dX7_perform_70 (by decide) (by decide) (by decide) ?_
              have hop := (show 105 < 256 by decide)
              refine ks_aload_n dX7_perform_128 rfl rfl ?_
              refine ks_callV (n := 0) (M' := mX7_verify) (c_mc_verify (d := d + 2) hM hO) hM cl_X7 rfl kx_1700 kx_1702 kxp_47 kx_24 kx_1703 (by decide +kernel) rfl (by decide) (Nat.le_of_ble_eq_true rfl) rfl dX7_perform_129 rfl (fun r3 S3 h3 => ?_)
              obtain ⟨t8, rfl⟩ := mcR.bool h3
              refine ks_zret rfl (ks_bo_z _) dX7_perform_132 ?_
              refine ⟨?_, ?_⟩
              · unfold pfS
                rw [if_neg (by omega), if_neg (by omega), if_neg (by omega), if_pos (by omega)]
                exact (mcR.mono h3 (by omega)).L (by decide)
              · rw [pb_ (by omega)]
                exact (mcR.up h3).at hM (by decide)
            · refine ks_lookup (off := 63) (tgt := 133) dX7_perform_70 (by decide) (by decide) (by decide) ?_
              have hop := (show 130 < 256 by decide)
              refine ks_aload_n dX7_perform_133 rfl rfl ?_
              refine ks_getf (T := TX7) (kf := 3) kx_646 rfl in_X7 cl_X7 (by decide) hM rfl dX7_perform_134 rfl ?_
              refine ks_getf (T := TX8) (kf := 3) kx_615 rfl in_X8 cl_X8 (by decide) hO.ob rfl dX7_perform_137 rfl ?_
              refine ks_if_leN (tgt := 175) (by omega) dX7_perform_140 (by decide) rfl (fun h1 => ?_) (fun h1 => ?_)
              · refine ks_iconst (x := nI 0) dX7_perform_175 (by decide) rfl ?_
                refine ks_zret rfl rfl dX7_perform_176 ?_
                refine ⟨?_, ?_⟩
                · unfold pfS
                  rw [if_neg (by omega), if_neg (by omega), if_neg (by omega), if_neg (by omega), if_pos (by omega)]
                  rw [if_pos (by omega)]
                  exact (mcR.no (ks_up.rf _ _) hO).L (by decide)
                · rw [pb_ (by omega)]
                  exact hM
              · obtain ⟨ar, fa, fc, f30, f31, f32, hgr, hel⟩ := hO.rows
                have hk := hel 0 (by omega)
                rw [Nat.sub_zero] at hk
                obtain ⟨hx0, hc0, hb0⟩ := hk
                refine ks_aload_n dX7_perform_143 rfl rfl ?_
                refine ks_getf (T := TX7) (kf := 3) kx_646 rfl in_X7 cl_X7 (by decide) hM rfl dX7_perform_144 rfl ?_
                refine ks_aload_n dX7_perform_147 rfl rfl ?_
                refine ks_getf (T := TX7) (kf := 3) kx_646 rfl in_X7 cl_X7 (by decide) hM rfl dX7_perform_148 rfl ?_
                refine ks_getf (T := TX8) (kf := 2) kx_613 rfl in_X8 cl_X8 (by decide) hO.ob rfl dX7_perform_151 rfl ?_
                refine ks_aload_n dX7_perform_154 rfl rfl ?_
                refine ks_getf (T := TX7) (kf := 3) kx_646 rfl in_X7 cl_X7 (by decide) hM rfl dX7_perform_155 rfl ?_
                refine ks_getf (T := TX8) (kf := 3) kx_615 rfl in_X8 cl_X8 (by decide) hO.ob rfl dX7_perform_158 rfl ?_
                refine ks_iconst (x := nI 1) dX7_perform_161 (by decide) rfl ?_
                refine ks_subN (by omega) dX7_perform_162 rfl ?_
                refine ks_ialdN (i := xs.length - 1) f32 rfl (by omega) (by decide) dX7_perform_163 rfl ?_
                refine ks_i2lN (by omega) dX7_perform_164 rfl ?_
                have nn : nsN (((xs.getD 0 []).length : Nat) : Int).natAbs ≤ 3 := nsN_le (k := 2) (show (xs.getD 0 []).length < 256 ^ 2 by omega)
                refine ks_tl (y := iL (((xs.getD 0 []).length : Nat) : Int)) (by rw [hc0]; rfl) ?_
                refine ks_callV (n := 1) (M' := mX8_addNumber) (c_st_addI (d := d + 1) (v := (((xs.getD 0 []).length : Nat) : Int)) hO (show (xs.getD 0 []).length < 2 ^ 48 by omega) (by omega) (by omega)) hO.ob cl_X8 rfl kx_1657 kx_1658 kx_1659 kx_25 kx_1660 (by decide +kernel) rfl (by decide) (Nat.le_of_ble_eq_true rfl) rfl dX7_perform_165 rfl (fun r1 T1 q1 => ?_)
                obtain ⟨rfl, u1, o1⟩ := q1
                have m1 := u1.1.at hM (by decide)
                refine ks_if_eqZ (tgt := 175) dX7_perform_168 (by decide) rfl (fun h2 => ?_) (fun h2 => ?_)
                · exact absurd h2 (by decide)
                · refine ks_iconst (x := nI 1) dX7_perform_171 (by decide) rfl ?_
                  refine ks_goto (tgt := 176) dX7_perform_172 (by decide) ?_
                  refine ks_zret rfl rfl dX7_perform_176 ?_
                  refine ⟨?_, ?_⟩
                  · unfold pfS
                    rw [if_neg (by omega), if_neg (by omega), if_neg (by omega), if_neg (by omega), if_pos (by omega)]
                    rw [if_neg (by omega)]
                    exact (mcR.yes u1 (by omega) (by omega) o1).L (by decide)
                  · rw [pb_ (by omega)]
                    exact m1
            · refine ks_lookup (off := 107) (tgt := 177) dX7_perform_70 (by decide) (by decide) (by decide) ?_
              have hop := (show 135 < 256 by decide)
              refine ks_aload_n dX7_perform_177 rfl rfl ?_
              refine ks_callV (n := 0) (M' := mX7_compare) (c_mc_compare (d := d) hM hO (by omega) (by omega)) hM cl_X7 rfl kx_1704 kx_1706 kxp_48 kx_24 kx_1707 (by decide +kernel) rfl (by decide) (Nat.le_of_ble_eq_true rfl) rfl dX7_perform_178 rfl (fun r3 S3 h3 => ?_)
              obtain ⟨t8, rfl⟩ := mcR.bool h3
              refine ks_zret rfl (ks_bo_z _) dX7_perform_181 ?_
              refine ⟨?_, ?_⟩
              · unfold pfS
                rw [if_neg (by omega), if_neg (by omega), if_neg (by omega), if_neg (by omega), if_neg (by omega), if_pos (by omega)]
                exact (mcR.mono h3 (by omega)).L (by decide)
              · rw [pb_ (by omega)]
                exact (mcR.up h3).at hM (by decide)
            · refine ks_lookup (off := 112) (tgt := 182) dX7_perform_70 (by decide) (by decide) (by decide) ?_
              have hop := (show 136 < 256 by decide)
              refine ks_aload_n dX7_perform_182 rfl rfl ?_
              refine ks_callV (n := 0) (M' := mX7_compare) (c_mc_compare (d := d) hM hO (by omega) (by omega)) hM cl_X7 rfl kx_1704 kx_1706 kxp_48 kx_24 kx_1707 (by decide +kernel) rfl (by decide) (Nat.le_of_ble_eq_true rfl) rfl dX7_perform_183 rfl (fun r3 S3 h3 => ?_)
              cases hcm : cmS xs ys with
              | none =>
                rw [hcm] at h3
                obtain ⟨rfl, u3, xs3, ys3, v3, o3⟩ := h3
                refine ks_if_eqZ (tgt := 200) dX7_perform_186 (by decide) rfl (fun g1 => ?_) (fun g1 => ?_)
                · refine ks_iconst (x := nI 0) dX7_perform_200 (by decide) rfl ?_
                  refine ks_zret rfl rfl dX7_perform_201 ?_
                  refine ⟨?_, ?_⟩
                  · unfold pfS
                    rw [if_neg (by omega), if_neg (by omega), if_neg (by omega), if_neg (by omega), if_neg (by omega), if_neg (by omega), if_pos (by omega)]
                    rw [hcm]
                    exact (mcR.no u3 o3).L (by decide)
                  · rw [pb_ (by omega)]
                    exact u3.at hM (by decide)
                · exact absurd g1 (by decide)
              | some q3 =>
                rw [hcm] at h3
                obtain ⟨rfl, u3, v3, ha3, hb3, o3⟩ := h3
                have M3 := u3.1.at hM (by decide)
                refine ks_if_eqZ (tgt := 200) dX7_perform_186 (by decide) rfl (fun g1 => ?_) (fun g1 => ?_)
                · exact absurd g1 (by decide)
                · refine ks_aload_n dX7_perform_189 rfl rfl ?_
                  refine ks_callV (n := 0) (M' := mX7_verify) (c_mc_verify (d := d + 2) M3 o3) M3 cl_X7 rfl kx_1700 kx_1702 kxp_47 kx_24 kx_1703 (by decide +kernel) rfl (by decide) (Nat.le_of_ble_eq_true rfl) rfl dX7_perform_190 rfl (fun r4 S4 h4 => ?_)
                  have h5 : mcR LSt S u 1 (vfS q3.1 q3.2) r4 S4 := mcR.after u3 h4 ha3 hb3 (by omega)
                  obtain ⟨t8, rfl⟩ := mcR.bool h5
                  refine ks_if_eqZ (tgt := 200) dX7_perform_193 (by decide) rfl (fun g2 => ?_) (fun g2 => ?_)
                  · refine ks_iconst (x := nI 0) dX7_perform_200 (by decide) rfl ?_
                    refine ks_zret rfl rfl dX7_perform_201 ?_
                    subst g2
                    refine ⟨?_, ?_⟩
                    · unfold pfS
                      rw [if_neg (by omega), if_neg (by omega), if_neg (by omega), if_neg (by omega), if_neg (by omega), if_neg (by omega), if_pos (by omega)]
                      rw [hcm]
                      exact (mcR.mono h5 (by omega)).L (by decide)
                    · rw [pb_ (by omega)]
                      exact (mcR.up h5).at hM (by decide)
                  · refine ks_iconst (x := nI 1) dX7_perform_196 (by decide) rfl ?_
                    refine ks_goto (tgt := 201) dX7_perform_197 (by decide) ?_
                    refine ks_zret rfl rfl dX7_perform_201 ?_
                    subst g2
                    refine ⟨?_, ?_⟩
                    · unfold pfS
                      rw [if_neg (by omega), if_neg (by omega), if_neg (by omega), if_neg (by omega), if_neg (by omega), if_neg (by omega), if_pos (by omega)]
                      rw [hcm]
                      exact (mcR.mono h5 (by omega)).L (by decide)
                    · rw [pb_ (by omega)]
                      exact (mcR.up h5).at hM (by decide)
            · refine ks_lookup (off := 132) (tgt := 202) dX7_perform_70 (by decide) (by decide) (by decide) ?_
              have hop := (show 171 < 256 by decide)
              refine ks_aload_n dX7_perform_202 rfl rfl ?_
              refine ks_aload_n dX7_perform_203 rfl rfl ?_
              refine ks_getf (T := TX7) (kf := 10) kx_653 rfl in_X7 cl_X7 (by decide) hM rfl dX7_perform_204 rfl ?_
              refine ks_putf (T := TX7) (kf := 12) kx_655 rfl in_X7 tyX7_ok nmX7 cl_X7 (by decide) hM (Nat.le_of_ble_eq_true rfl) rfl rfl rfl rfl dX7_perform_207 rfl ?_
              refine ks_iconst (x := nI 1) dX7_perform_210 (by decide) rfl ?_
              refine ks_zret rfl rfl dX7_perform_211 ?_
              refine ⟨?_, ?_⟩
              · unfold pfS
                rw [if_neg (by omega), if_neg (by omega), if_neg (by omega), if_neg (by omega), if_neg (by omega), if_neg (by omega), if_neg (by omega), if_pos (by omega)]
                exact ⟨rfl, stV.of (ks_up_set S (a := 27) _ (L := [27]) (by decide)) (by decide) (by decide), u, by omega, by omega, hO.up (ks_up_set S (a := 27) _ (L := [27]) (by decide)) (by decide)⟩
              · rw [if_pos rfl]
                exact (ks_set_same _ _ _)
            · refine ks_lookup (off := 142) (tgt := 212) dX7_perform_70 (by decide) (by decide) (by decide) ?_
              have hop := (show 177 < 256 by decide)
              refine ks_aload_n dX7_perform_212 rfl rfl ?_
              refine ks_getf (T := TX7) (kf := 3) kx_646 rfl in_X7 cl_X7 (by decide) hM rfl dX7_perform_213 rfl ?_
              refine ks_iconst (x := nI 0) dX7_perform_216 (by decide) rfl ?_
              refine ks_iconst (x := nI 5) dX7_perform_217 (by decide) rfl ?_
              refine ks_callV (n := 2) (M' := mX8_hasNumber) (c_st_hasNumber (d := d + 3) (c := 0) (mo := 5) hO (by decide) (by decide)) hO.ob cl_X8 rfl kx_1596 kx_1597 kx_1598 kx_25 kx_1599 (by decide +kernel) rfl (by decide) (Nat.le_of_ble_eq_true rfl) rfl dX7_perform_218 rfl (fun r1 T1 q1 => ?_)
              obtain ⟨t, rfl, hS1, ht⟩ := q1
              obtain rfl := hS1.symm
              rw [has_iff] at ht
              refine ks_if_eqZ (tgt := 250) dX7_perform_221 (by decide) rfl (fun h1 => ?_) (fun h1 => ?_)
              · refine ks_iconst (x := nI 0) dX7_perform_250 (by decide) rfl ?_
                refine ks_zret rfl rfl dX7_perform_251 ?_
                refine ⟨?_, ?_⟩
                · unfold pfS
                  rw [if_neg (by omega), if_neg (by omega), if_neg (by omega), if_neg (by omega), if_neg (by omega), if_neg (by omega), if_neg (by omega), if_neg (by omega), if_pos (by omega)]
                  rw [if_neg (fun h => by have := ht.mpr h.1; rw [h1] at this; cases this)]
                  exact (mcR.no (ks_up.rf _ _) hO).L (by decide)
                · rw [pb_ (by omega)]
                  exact hM
              · have h5 := ht.mp h1
                have vb := (numV_b (hO.byte h5.1) h5.2).2 (by decide)
                have vT : (iL (numV (xs.getD 0 []))).toInt = numV (xs.getD 0 []) := iL_T (by omega) (by omega)
                refine ks_aload_n dX7_perform_224 rfl rfl ?_
                refine ks_getf (T := TX7) (kf := 7) kx_650 rfl in_X7 cl_X7 (by decide) hM rfl dX7_perform_225 rfl ?_
                refine ks_aload_n dX7_perform_228 rfl rfl ?_
                refine ks_getf (T := TX7) (kf := 3) kx_646 rfl in_X7 cl_X7 (by decide) hM rfl dX7_perform_229 rfl ?_
                refine ks_iconst (x := nI 0) dX7_perform_232 (by decide) rfl ?_
                refine ks_callV (n := 1) (M' := mX8_number) (c_st_number (d := d + 3) (c := 0) hO (gD h5.1) h5.2) hO.ob cl_X8 rfl kx_1600 kx_1601 kx_1602 kx_25 kx_1603 (by decide +kernel) rfl (by decide) (Nat.le_of_ble_eq_true rfl) rfl dX7_perform_233 rfl (fun r2 T2 q2 => ?_)
                obtain ⟨rfl, hS2⟩ := q2
                obtain rfl := hS2.symm
                refine ks_aload_n dX7_perform_236 rfl rfl ?_
                refine ks_getf (T := TX7) (kf := 8) kx_651 rfl in_X7 cl_X7 (by decide) hM rfl dX7_perform_237 rfl ?_
                refine ks_callV (n := 2) (M' := mX10_locksUntil) (c_tv_locksUntil (d := d + 1) (q := iL (numV (xs.getD 0 []))) hV hy9 hg9 hL9 hN9 hi9) hV.1 cl_X10 rfl kx_1712 kx_1713 kx_1714 kx_23 kx_1715 (by decide +kernel) rfl (by decide) (Nat.le_of_ble_eq_true rfl) rfl dX7_perform_240 rfl (fun r3 S3 h3 => ?_)
                obtain ⟨t3, rfl, hS3, ht3⟩ := h3
                obtain rfl := hS3.symm
                rw [vT] at ht3
                refine ks_if_eqZ (tgt := 250) dX7_perform_243 (by decide) rfl (fun h2 => ?_) (fun h2 => ?_)
                · refine ks_iconst (x := nI 0) dX7_perform_250 (by decide) rfl ?_
                  refine ks_zret rfl rfl dX7_perform_251 ?_
                  refine ⟨?_, ?_⟩
                  · unfold pfS
                    rw [if_neg (by omega), if_neg (by omega), if_neg (by omega), if_neg (by omega), if_neg (by omega), if_neg (by omega), if_neg (by omega), if_neg (by omega), if_pos (by omega)]
                    rw [if_neg (fun h => by have := ht3.mpr (of_decide_eq_true h.2); rw [h2] at this; cases this)]
                    exact (mcR.no (ks_up.rf _ _) hO).L (by decide)
                  · rw [pb_ (by omega)]
                    exact hM
                · refine ks_iconst (x := nI 1) dX7_perform_246 (by decide) rfl ?_
                  refine ks_goto (tgt := 251) dX7_perform_247 (by decide) ?_
                  refine ks_zret rfl rfl dX7_perform_251 ?_
                  refine ⟨?_, ?_⟩
                  · unfold pfS
                    rw [if_neg (by omega), if_neg (by omega), if_neg (by omega), if_neg (by omega), if_neg (by omega), if_neg (by omega), if_neg (by omega), if_neg (by omega), if_pos (by omega)]
                    rw [if_pos ⟨h5, decide_eq_true (ht3.mp h2)⟩]
                    exact (mcR.yes (stU.rf _ _) (by omega) (by omega) hO).L (by decide)
                  · rw [pb_ (by omega)]
                    exact hM
            · refine ks_lookup (off := 182) (tgt := 252) dX7_perform_70 (by decide) ((show ∀ q, q < 256 → (¬ q = 105 ∧ ¬ q = 130 ∧ ¬ q = 135 ∧ ¬ q = 136 ∧ ¬ q = 171 ∧ ¬ q = 177) → Op.lookupswitch.offset [(105, 58), (130, 63), (135, 107), (136, 112), (171, 132), (177, 142)] 182 (nI q).toInt = 182 by decide +kernel) _ hop hsw) (by decide) ?_
              refine ks_iload_n dX7_perform_252 rfl rfl ?_
              refine ks_bipush (x := nI 97) dX7_perform_253 (by decide) rfl ?_
              refine ks_icmp_eqN (tgt := 279) (by omega) (by decide) dX7_perform_255 (by decide) rfl (fun hc255 => ?_) (fun hc255 => ?_)
              · refine ks_iconst (x := nI 1) dX7_perform_279 (by decide) rfl ?_
                refine ks_goto (tgt := 284) dX7_perform_280 (by decide) ?_
                refine ks_zret rfl rfl dX7_perform_284 ?_
                refine ⟨?_, ?_⟩
                · unfold pfS
                  rw [if_neg (by omega), if_neg (by omega), if_neg (by omega), if_neg (by omega), if_neg (by omega), if_neg (by omega), if_neg (by omega), if_neg (by omega), if_neg (by omega), if_pos (by omega)]
                  exact (mcR.yes (stU.rf _ _) (by omega) (by omega) hO).L (by decide)
                · rw [pb_ (by omega)]
                  exact hM
              · refine ks_iload_n dX7_perform_258 rfl rfl ?_
                refine ks_sipush (x := nI 176) dX7_perform_259 (by decide) rfl ?_
                refine ks_icmp_eqN (tgt := 279) (by omega) (by decide) dX7_perform_262 (by decide) rfl (fun hc262 => ?_) (fun hc262 => ?_)
                · refine ks_iconst (x := nI 1) dX7_perform_279 (by decide) rfl ?_
                  refine ks_goto (tgt := 284) dX7_perform_280 (by decide) ?_
                  refine ks_zret rfl rfl dX7_perform_284 ?_
                  refine ⟨?_, ?_⟩
                  · unfold pfS
                    rw [if_neg (by omega), if_neg (by omega), if_neg (by omega), if_neg (by omega), if_neg (by omega), if_neg (by omega), if_neg (by omega), if_neg (by omega), if_neg (by omega), if_pos (by omega)]
                    exact (mcR.yes (stU.rf _ _) (by omega) (by omega) hO).L (by decide)
                  · rw [pb_ (by omega)]
                    exact hM
                · refine ks_iload_n dX7_perform_265 rfl rfl ?_
                  refine ks_sipush (x := nI 178) dX7_perform_266 (by decide) rfl ?_
                  refine ks_icmp_ltN (tgt := 283) (by omega) (by decide) dX7_perform_269 (by decide) rfl (fun hc269 => ?_) (fun hc269 => ?_)
                  · refine ks_iconst (x := nI 0) dX7_perform_283 (by decide) rfl ?_
                    refine ks_zret rfl rfl dX7_perform_284 ?_
                    refine ⟨?_, ?_⟩
                    · unfold pfS
                      rw [if_neg (by omega), if_neg (by omega), if_neg (by omega), if_neg (by omega), if_neg (by omega), if_neg (by omega), if_neg (by omega), if_neg (by omega), if_neg (by omega), if_neg (by omega)]
                      exact (mcR.no (ks_up.rf _ _) hO).L (by decide)
                    · rw [pb_ (by omega)]
                      exact hM
                  · refine ks_iload_n dX7_perform_272 rfl rfl ?_
                    refine ks_sipush (x := nI 185) dX7_perform_273 (by decide) rfl ?_
                    refine ks_icmp_gtN (tgt := 283) (by omega) (by decide) dX7_perform_276 (by decide) rfl (fun hc276 => ?_) (fun hc276 => ?_)
                    · refine ks_iconst (x := nI 0) dX7_perform_283 (by decide) rfl ?_
                      refine ks_zret rfl rfl dX7_perform_284 ?_
                      refine ⟨?_, ?_⟩
                      · unfold pfS
                        rw [if_neg (by omega), if_neg (by omega), if_neg (by omega), if_neg (by omega), if_neg (by omega), if_neg (by omega), if_neg (by omega), if_neg (by omega), if_neg (by omega), if_neg (by omega)]
                        exact (mcR.no (ks_up.rf _ _) hO).L (by decide)
                      · rw [pb_ (by omega)]
                        exact hM
                    · refine ks_iconst (x := nI 1) dX7_perform_279 (by decide) rfl ?_
                      refine ks_goto (tgt := 284) dX7_perform_280 (by decide) ?_
                      refine ks_zret rfl rfl dX7_perform_284 ?_
                      refine ⟨?_, ?_⟩
                      · unfold pfS
                        rw [if_neg (by omega), if_neg (by omega), if_neg (by omega), if_neg (by omega), if_neg (by omega), if_neg (by omega), if_neg (by omega), if_neg (by omega), if_neg (by omega), if_pos (by omega)]
                        exact (mcR.yes (stU.rf _ _) (by omega) (by omega) hO).L (by decide)
                      · rw [pb_ (by omega)]
                        exact hM
          · refine ks_iload_n dX7_perform_56 rfl rfl ?_
            refine ks_sipush (x := nI 165) dX7_perform_57 (by decide) rfl ?_
            refine ks_icmp_gtN (tgt := 69) (by omega) (by decide) dX7_perform_60 (by decide) rfl (fun g60 => ?_) (fun g60 => ?_)
            · refine ks_iload_n dX7_perform_69 rfl rfl ?_
              have hsw : op = 105 ∨ op = 130 ∨ op = 135 ∨ op = 136 ∨ op = 171 ∨ op = 177 ∨ (¬ op = 105 ∧ ¬ op = 130 ∧ ¬ op = 135 ∧ ¬ op = 136 ∧ ¬ op = 171 ∧ ¬ op = 177) := by omega
              rcases hsw with rfl | rfl | rfl | rfl | rfl | rfl | hsw
              · refine ks_lookup (off := 58) (tgt := 128) dX7_perform_70 (by decide) (by decide) (by decide) ?_
                have hop := (show 105 < 256 by decide)
                refine ks_aload_n dX7_perform_128 rfl rfl ?_
                refine ks_callV (n := 0) (M' := mX7_verify) (c_mc_verify (d := d + 2) hM hO) hM cl_X7 rfl kx_1700 kx_1702 kxp_47 kx_24 kx_1703 (by decide +kernel) rfl (by decide) (Nat.le_of_ble_eq_true rfl) rfl dX7_perform_129 rfl (fun r3 S3 h3 => ?_)
                obtain ⟨t8, rfl⟩ := mcR.bool h3
                refine ks_zret rfl (ks_bo_z _) dX7_perform_132 ?_
                refine ⟨?_, ?_⟩
                · unfold pfS
                  rw [if_neg (by omega), if_neg (by omega), if_neg (by omega), if_pos (by omega)]
                  exact (mcR.mono h3 (by omega)).L (by decide)
                · rw [pb_ (by omega)]
                  exact (mcR.up h3).at hM (by decide)
              · refine ks_lookup (off := 63) (tgt := 133) dX7_perform_70 (by decide) (by decide) (by decide) ?_
                have hop := (show 130 < 256 by decide)
                refine ks_aload_n dX7_perform_133 rfl rfl ?_
                refine ks_getf (T := TX7) (kf := 3) kx_646 rfl in_X7 cl_X7 (by decide) hM rfl dX7_perform_134 rfl ?_
                refine ks_getf (T := TX8) (kf := 3) kx_615 rfl in_X8 cl_X8 (by decide) hO.ob rfl dX7_perform_137 rfl ?_
                refine ks_if_leN (tgt := 175) (by omega) dX7_perform_140 (by decide) rfl (fun h1 => ?_) (fun h1 => ?_)
                · refine ks_iconst (x := nI 0) dX7_perform_175 (by decide) rfl ?_
                  refine ks_zret rfl rfl dX7_perform_176 ?_
                  refine ⟨?_, ?_⟩
                  · unfold pfS
                    rw [if_neg (by omega), if_neg (by omega), if_neg (by omega), if_neg (by omega), if_pos (by omega)]
                    rw [if_pos (by omega)]
                    exact (mcR.no (ks_up.rf _ _) hO).L (by decide)
                  · rw [pb_ (by omega)]
                    exact hM
                · obtain ⟨ar, fa, fc, f30, f31, f32, hgr, hel⟩ := hO.rows
                  have hk := hel 0 (by omega)
                  rw [Nat.sub_zero] at hk
                  obtain ⟨hx0, hc0, hb0⟩ := hk
                  refine ks_aload_n dX7_perform_143 rfl rfl ?_
                  refine ks_getf (T := TX7) (kf := 3) kx_646 rfl in_X7 cl_X7 (by decide) hM rfl dX7_perform_144 rfl ?_
                  refine ks_aload_n dX7_perform_147 rfl rfl ?_
                  refine ks_getf (T := TX7) (kf := 3) kx_646 rfl in_X7 cl_X7 (by decide) hM rfl dX7_perform_148 rfl ?_
                  refine ks_getf (T := TX8) (kf := 2) kx_613 rfl in_X8 cl_X8 (by decide) hO.ob rfl dX7_perform_151 rfl ?_
                  refine ks_aload_n dX7_perform_154 rfl rfl ?_
                  refine ks_getf (T := TX7) (kf := 3) kx_646 rfl in_X7 cl_X7 (by decide) hM rfl dX7_perform_155 rfl ?_
                  refine ks_getf (T := TX8) (kf := 3) kx_615 rfl in_X8 cl_X8 (by decide) hO.ob rfl dX7_perform_158 rfl ?_
                  refine ks_iconst (x := nI 1) dX7_perform_161 (by decide) rfl ?_
                  refine ks_subN (by omega) dX7_perform_162 rfl ?_
                  refine ks_ialdN (i := xs.length - 1) f32 rfl (by omega) (by decide) dX7_perform_163 rfl ?_
                  refine ks_i2lN (by omega) dX7_perform_164 rfl ?_
                  have nn : nsN (((xs.getD 0 []).length : Nat) : Int).natAbs ≤ 3 := nsN_le (k := 2) (show (xs.getD 0 []).length < 256 ^ 2 by omega)
                  refine ks_tl (y := iL (((xs.getD 0 []).length : Nat) : Int)) (by rw [hc0]; rfl) ?_
                  refine ks_callV (n := 1) (M' := mX8_addNumber) (c_st_addI (d := d + 1) (v := (((xs.getD 0 []).length : Nat) : Int)) hO (show (xs.getD 0 []).length < 2 ^ 48 by omega) (by omega) (by omega)) hO.ob cl_X8 rfl kx_1657 kx_1658 kx_1659 kx_25 kx_1660 (by decide +kernel) rfl (by decide) (Nat.le_of_ble_eq_true rfl) rfl dX7_perform_165 rfl (fun r1 T1 q1 => ?_)
                  obtain ⟨rfl, u1, o1⟩ := q1
                  have m1 := u1.1.at hM (by decide)
                  refine ks_if_eqZ (tgt := 175) dX7_perform_168 (by decide) rfl (fun h2 => ?_) (fun h2 => ?_)
                  · exact absurd h2 (by decide)
                  · refine ks_iconst (x := nI 1) dX7_perform_171 (by decide) rfl ?_
                    refine ks_goto (tgt := 176) dX7_perform_172 (by decide) ?_
                    refine ks_zret rfl rfl dX7_perform_176 ?_
                    refine ⟨?_, ?_⟩
                    · unfold pfS
                      rw [if_neg (by omega), if_neg (by omega), if_neg (by omega), if_neg (by omega), if_pos (by omega)]
                      rw [if_neg (by omega)]
                      exact (mcR.yes u1 (by omega) (by omega) o1).L (by decide)
                    · rw [pb_ (by omega)]
                      exact m1
              · refine ks_lookup (off := 107) (tgt := 177) dX7_perform_70 (by decide) (by decide) (by decide) ?_
                have hop := (show 135 < 256 by decide)
                refine ks_aload_n dX7_perform_177 rfl rfl ?_
                refine ks_callV (n := 0) (M' := mX7_compare) (c_mc_compare (d := d) hM hO (by omega) (by omega)) hM cl_X7 rfl kx_1704 kx_1706 kxp_48 kx_24 kx_1707 (by decide +kernel) rfl (by decide) (Nat.le_of_ble_eq_true rfl) rfl dX7_perform_178 rfl (fun r3 S3 h3 => ?_)
                obtain ⟨t8, rfl⟩ := mcR.bool h3
                refine ks_zret rfl (ks_bo_z _) dX7_perform_181 ?_
                refine ⟨?_, ?_⟩
                · unfold pfS
                  rw [if_neg (by omega), if_neg (by omega), if_neg (by omega), if_neg (by omega), if_neg (by omega), if_pos (by omega)]
                  exact (mcR.mono h3 (by omega)).L (by decide)
                · rw [pb_ (by omega)]
                  exact (mcR.up h3).at hM (by decide)
              · refine ks_lookup (off := 112) (tgt := 182) dX7_perform_70 (by decide) (by decide) (by decide) ?_
                have hop := (show 136 < 256 by decide)
                refine ks_aload_n dX7_perform_182 rfl rfl ?_
                refine ks_callV (n := 0) (M' := mX7_compare) (c_mc_compare (d := d) hM hO (by omega) (by omega)) hM cl_X7 rfl kx_1704 kx_1706 kxp_48 kx_24 kx_1707 (by decide +kernel) rfl (by decide) (Nat.le_of_ble_eq_true rfl) rfl dX7_perform_183 rfl (fun r3 S3 h3 => ?_)
                cases hcm : cmS xs ys with
                | none =>
                  rw [hcm] at h3
                  obtain ⟨rfl, u3, xs3, ys3, v3, o3⟩ := h3
                  refine ks_if_eqZ (tgt := 200) dX7_perform_186 (by decide) rfl (fun g1 => ?_) (fun g1 => ?_)
                  · refine ks_iconst (x := nI 0) dX7_perform_200 (by decide) rfl ?_
                    refine ks_zret rfl rfl dX7_perform_201 ?_
                    refine ⟨?_, ?_⟩
                    · unfold pfS
                      rw [if_neg (by omega), if_neg (by omega), if_neg (by omega), if_neg (by omega), if_neg (by omega), if_neg (by omega), if_pos (by omega)]
                      rw [hcm]
                      exact (mcR.no u3 o3).L (by decide)
                    · rw [pb_ (by omega)]
                      exact u3.at hM (by decide)
                  · exact absurd g1 (by decide)
                | some q3 =>
                  rw [hcm] at h3
                  obtain ⟨rfl, u3, v3, ha3, hb3, o3⟩ := h3
                  have M3 := u3.1.at hM (by decide)
                  refine ks_if_eqZ (tgt := 200) dX7_perform_186 (by decide) rfl (fun g1 => ?_) (fun g1 => ?_)
                  · exact absurd g1 (by decide)
                  · refine ks_aload_n dX7_perform_189 rfl rfl ?_
                    refine ks_callV (n := 0) (M' := mX7_verify) (c_mc_verify (d := d + 2) M3 o3) M3 cl_X7 rfl kx_1700 kx_1702 kxp_47 kx_24 kx_1703 (by decide +kernel) rfl (by decide) (Nat.le_of_ble_eq_true rfl) rfl dX7_perform_190 rfl (fun r4 S4 h4 => ?_)
                    have h5 : mcR LSt S u 1 (vfS q3.1 q3.2) r4 S4 := mcR.after u3 h4 ha3 hb3 (by omega)
                    obtain ⟨t8, rfl⟩ := mcR.bool h5
                    refine ks_if_eqZ (tgt := 200) dX7_perform_193 (by decide) rfl (fun g2 => ?_) (fun g2 => ?_)
                    · refine ks_iconst (x := nI 0) dX7_perform_200 (by decide) rfl ?_
                      refine ks_zret rfl rfl dX7_perform_201 ?_
                      subst g2
                      refine ⟨?_, ?_⟩
                      · unfold pfS
                        rw [if_neg (by omega), if_neg (by omega), if_neg (by omega), if_neg (by omega), if_neg (by omega), if_neg (by omega), if_pos (by omega)]
                        rw [hcm]
                        exact (mcR.mono h5 (by omega)).L (by decide)
                      · rw [pb_ (by omega)]
                        exact (mcR.up h5).at hM (by decide)
                    · refine ks_iconst (x := nI 1) dX7_perform_196 (by decide) rfl ?_
                      refine ks_goto (tgt := 201) dX7_perform_197 (by decide) ?_
                      refine ks_zret rfl rfl dX7_perform_201 ?_
                      subst g2
                      refine ⟨?_, ?_⟩
                      · unfold pfS
                        rw [if_neg (by omega), if_neg (by omega), if_neg (by omega), if_neg (by omega), if_neg (by omega), if_neg (by omega), if_pos (by omega)]
                        rw [hcm]
                        exact (mcR.mono h5 (by omega)).L (by decide)
                      · rw [pb_ (by omega)]
                        exact (mcR.up h5).at hM (by decide)
              · refine ks_lookup (off := 132) (tgt := 202) dX7_perform_70 (by decide) (by decide) (by decide) ?_
                have hop := (show 171 < 256 by decide)
                refine ks_aload_n dX7_perform_202 rfl rfl ?_
                refine ks_aload_n dX7_perform_203 rfl rfl ?_
                refine ks_getf (T := TX7) (kf := 10) kx_653 rfl in_X7 cl_X7 (by decide) hM rfl dX7_perform_204 rfl ?_
                refine ks_putf (T := TX7) (kf := 12) kx_655 rfl in_X7 tyX7_ok nmX7 cl_X7 (by decide) hM (Nat.le_of_ble_eq_true rfl) rfl rfl rfl rfl dX7_perform_207 rfl ?_
                refine ks_iconst (x := nI 1) dX7_perform_210 (by decide) rfl ?_
                refine ks_zret rfl rfl dX7_perform_211 ?_
                refine ⟨?_, ?_⟩
                · unfold pfS
                  rw [if_neg (by omega), if_neg (by omega), if_neg (by omega), if_neg (by omega), if_neg (by omega), if_neg (by omega), if_neg (by omega), if_pos (by omega)]
                  exact ⟨rfl, stV.of (ks_up_set S (a := 27) _ (L := [27]) (by decide)) (by decide) (by decide), u, by omega, by omega, hO.up (ks_up_set S (a := 27) _ (L := [27]) (by decide)) (by decide)⟩
                · rw [if_pos rfl]
                  exact (ks_set_same _ _ _)
              · refine ks_lookup (off := 142) (tgt := 212) dX7_perform_70 (by decide) (by decide) (by decide) ?_
                have hop := (show 177 < 256 by decide)
                refine ks_aload_n dX7_perform_212 rfl rfl ?_
                refine ks_getf (T := TX7) (kf := 3) kx_646 rfl in_X7 cl_X7 (by decide) hM rfl dX7_perform_213 rfl ?_
                refine ks_iconst (x := nI 0) dX7_perform_216 (by decide) rfl ?_
                refine ks_iconst (x := nI 5) dX7_perform_217 (by decide) rfl ?_
                refine ks_callV (n := 2) (M' := mX8_hasNumber) (c_st_hasNumber (d := d + 3) (c := 0) (mo := 5) hO (by decide) (by decide)) hO.ob cl_X8 rfl kx_1596 kx_1597 kx_1598 kx_25 kx_1599 (by decide +kernel) rfl (by decide) (Nat.le_of_ble_eq_true rfl) rfl dX7_perform_218 rfl (fun r1 T1 q1 => ?_)
                obtain ⟨t, rfl, hS1, ht⟩ := q1
                obtain rfl := hS1.symm
                rw [has_iff] at ht
                refine ks_if_eqZ (tgt := 250) dX7_perform_221 (by decide) rfl (fun h1 => ?_) (fun h1 => ?_)
                · refine ks_iconst (x := nI 0) dX7_perform_250 (by decide) rfl ?_
                  refine ks_zret rfl rfl dX7_perform_251 ?_
                  refine ⟨?_, ?_⟩
                  · unfold pfS
                    rw [if_neg (by omega), if_neg (by omega), if_neg (by omega), if_neg (by omega), if_neg (by omega), if_neg (by omega), if_neg (by omega), if_neg (by omega), if_pos (by omega)]
                    rw [if_neg (fun h => by have := ht.mpr h.1; rw [h1] at this; cases this)]
                    exact (mcR.no (ks_up.rf _ _) hO).L (by decide)
                  · rw [pb_ (by omega)]
                    exact hM
                · have h5 := ht.mp h1
                  have vb := (numV_b (hO.byte h5.1) h5.2).2 (by decide)
                  have vT : (iL (numV (xs.getD 0 []))).toInt = numV (xs.getD 0 []) := iL_T (by omega) (by omega)
                  refine ks_aload_n dX7_perform_224 rfl rfl ?_
                  refine ks_getf (T := TX7) (kf := 7) kx_650 rfl in_X7 cl_X7 (by decide) hM rfl dX7_perform_225 rfl ?_
                  refine ks_aload_n dX7_perform_228 rfl rfl ?_
                  refine ks_getf (T := TX7) (kf := 3) kx_646 rfl in_X7 cl_X7 (by decide) hM rfl dX7_perform_229 rfl ?_
                  refine ks_iconst (x := nI 0) dX7_perform_232 (by decide) rfl ?_
                  refine ks_callV (n := 1) (M' := mX8_number) (c_st_number (d := d + 3) (c := 0) hO (gD h5.1) h5.2) hO.ob cl_X8 rfl kx_1600 kx_1601 kx_1602 kx_25 kx_1603 (by decide +kernel) rfl (by decide) (Nat.le_of_ble_eq_true rfl) rfl dX7_perform_233 rfl (fun r2 T2 q2 => ?_)
                  obtain ⟨rfl, hS2⟩ := q2
                  obtain rfl := hS2.symm
                  refine ks_aload_n dX7_perform_236 rfl rfl ?_
                  refine ks_getf (T := TX7) (kf := 8) kx_651 rfl in_X7 cl_X7 (by decide) hM rfl dX7_perform_237 rfl ?_
                  refine ks_callV (n := 2) (M' := mX10_locksUntil) (c_tv_locksUntil (d := d + 1) (q := iL (numV (xs.getD 0 []))) hV hy9 hg9 hL9 hN9 hi9) hV.1 cl_X10 rfl kx_1712 kx_1713 kx_1714 kx_23 kx_1715 (by decide +kernel) rfl (by decide) (Nat.le_of_ble_eq_true rfl) rfl dX7_perform_240 rfl (fun r3 S3 h3 => ?_)
                  obtain ⟨t3, rfl, hS3, ht3⟩ := h3
                  obtain rfl := hS3.symm
                  rw [vT] at ht3
                  refine ks_if_eqZ (tgt := 250) dX7_perform_243 (by decide) rfl (fun h2 => ?_) (fun h2 => ?_)
                  · refine ks_iconst (x := nI 0) dX7_perform_250 (by decide) rfl ?_
                    refine ks_zret rfl rfl dX7_perform_251 ?_
                    refine ⟨?_, ?_⟩
                    · unfold pfS
                      rw [if_neg (by omega), if_neg (by omega), if_neg (by omega), if_neg (by omega), if_neg (by omega), if_neg (by omega), if_neg (by omega), if_neg (by omega), if_pos (by omega)]
                      rw [if_neg (fun h => by have := ht3.mpr (of_decide_eq_true h.2); rw [h2] at this; cases this)]
                      exact (mcR.no (ks_up.rf _ _) hO).L (by decide)
                    · rw [pb_ (by omega)]
                      exact hM
                  · refine ks_iconst (x := nI 1) dX7_perform_246 (by decide) rfl ?_
                    refine ks_goto (tgt := 251) dX7_perform_247 (by decide) ?_
                    refine ks_zret rfl rfl dX7_perform_251 ?_
                    refine ⟨?_, ?_⟩
                    · unfold pfS
                      rw [if_neg (by omega), if_neg (by omega), if_neg (by omega), if_neg (by omega), if_neg (by omega), if_neg (by omega), if_neg (by omega), if_neg (by omega), if_pos (by omega)]
                      rw [if_pos ⟨h5, decide_eq_true (ht3.mp h2)⟩]
                      exact (mcR.yes (stU.rf _ _) (by omega) (by omega) hO).L (by decide)
                    · rw [pb_ (by omega)]
                      exact hM
              · refine ks_lookup (off := 182) (tgt := 252) dX7_perform_70 (by decide) ((show ∀ q, q < 256 → (¬ q = 105 ∧ ¬ q = 130 ∧ ¬ q = 135 ∧ ¬ q = 136 ∧ ¬ q = 171 ∧ ¬ q = 177) → Op.lookupswitch.offset [(105, 58), (130, 63), (135, 107), (136, 112), (171, 132), (177, 142)] 182 (nI q).toInt = 182 by decide +kernel) _ hop hsw) (by decide) ?_
                refine ks_iload_n dX7_perform_252 rfl rfl ?_
                refine ks_bipush (x := nI 97) dX7_perform_253 (by decide) rfl ?_
                refine ks_icmp_eqN (tgt := 279) (by omega) (by decide) dX7_perform_255 (by decide) rfl (fun hc255 => ?_) (fun hc255 => ?_)
                · refine ks_iconst (x := nI 1) dX7_perform_279 (by decide) rfl ?_
                  refine ks_goto (tgt := 284) dX7_perform_280 (by decide) ?_
                  refine ks_zret rfl rfl dX7_perform_284 ?_
                  refine ⟨?_, ?_⟩
                  · unfold pfS
                    rw [if_neg (by omega), if_neg (by omega), if_neg (by omega), if_neg (by omega), if_neg (by omega), if_neg (by omega), if_neg (by omega), if_neg (by omega), if_neg (by omega), if_pos (by omega)]
                    exact (mcR.yes (stU.rf _ _) (by omega) (by omega) hO).L (by decide)
                  · rw [pb_ (by omega)]
                    exact hM
                · refine ks_iload_n dX7_perform_258 rfl rfl ?_
                  refine ks_sipush (x := nI 176) dX7_perform_259 (by decide) rfl ?_
                  refine ks_icmp_eqN (tgt := 279) (by omega) (by decide) dX7_perform_262 (by decide) rfl (fun hc262 => ?_) (fun hc262 => ?_)
                  · refine ks_iconst (x := nI 1) dX7_perform_279 (by decide) rfl ?_
                    refine ks_goto (tgt := 284) dX7_perform_280 (by decide) ?_
                    refine ks_zret rfl rfl dX7_perform_284 ?_
                    refine ⟨?_, ?_⟩
                    · unfold pfS
                      rw [if_neg (by omega), if_neg (by omega), if_neg (by omega), if_neg (by omega), if_neg (by omega), if_neg (by omega), if_neg (by omega), if_neg (by omega), if_neg (by omega), if_pos (by omega)]
                      exact (mcR.yes (stU.rf _ _) (by omega) (by omega) hO).L (by decide)
                    · rw [pb_ (by omega)]
                      exact hM
                  · refine ks_iload_n dX7_perform_265 rfl rfl ?_
                    refine ks_sipush (x := nI 178) dX7_perform_266 (by decide) rfl ?_
                    refine ks_icmp_ltN (tgt := 283) (by omega) (by decide) dX7_perform_269 (by decide) rfl (fun hc269 => ?_) (fun hc269 => ?_)
                    · refine ks_iconst (x := nI 0) dX7_perform_283 (by decide) rfl ?_
                      refine ks_zret rfl rfl dX7_perform_284 ?_
                      refine ⟨?_, ?_⟩
                      · unfold pfS
                        rw [if_neg (by omega), if_neg (by omega), if_neg (by omega), if_neg (by omega), if_neg (by omega), if_neg (by omega), if_neg (by omega), if_neg (by omega), if_neg (by omega), if_neg (by omega)]
                        exact (mcR.no (ks_up.rf _ _) hO).L (by decide)
                      · rw [pb_ (by omega)]
                        exact hM
                    · refine ks_iload_n dX7_perform_272 rfl rfl ?_
                      refine ks_sipush (x := nI 185) dX7_perform_273 (by decide) rfl ?_
                      refine ks_icmp_gtN (tgt := 283) (by omega) (by decide) dX7_perform_276 (by decide) rfl (fun hc276 => ?_) (fun hc276 => ?_)
                      · refine ks_iconst (x := nI 0) dX7_perform_283 (by decide) rfl ?_
                        refine ks_zret rfl rfl dX7_perform_284 ?_
                        refine ⟨?_, ?_⟩
                        · unfold pfS
                          rw [if_neg (by omega), if_neg (by omega), if_neg (by omega), if_neg (by omega), if_neg (by omega), if_neg (by omega), if_neg (by omega), if_neg (by omega), if_neg (by omega), if_neg (by omega)]
                          exact (mcR.no (ks_up.rf _ _) hO).L (by decide)
                        · rw [pb_ (by omega)]
                          exact hM
                      · refine ks_iconst (x := nI 1) dX7_perform_279 (by decide) rfl ?_
                        refine ks_goto (tgt := 284) dX7_perform_280 (by decide) ?_
                        refine ks_zret rfl rfl dX7_perform_284 ?_
                        refine ⟨?_, ?_⟩
                        · unfold pfS
                          rw [if_neg (by omega), if_neg (by omega), if_neg (by omega), if_neg (by omega), if_neg (by omega), if_neg (by omega), if_neg (by omega), if_neg (by omega), if_neg (by omega), if_pos (by omega)]
                          exact (mcR.yes (stU.rf _ _) (by omega) (by omega) hO).L (by decide)
                        · rw [pb_ (by omega)]
                          exact hM
            · refine ks_aload_n dX7_perform_63 rfl rfl ?_
              refine ks_iload_n dX7_perform_64 rfl rfl ?_
              refine ks_callV (n := 1) (M' := mX7_reckon) (c_mc_reckon (d := d) hM hO (by omega) (by omega) hl (by omega)) hM cl_X7 rfl kx_1687 kx_1689 kxp_46 kx_24 kx_1690 (by decide +kernel) rfl (by decide) (Nat.le_of_ble_eq_true rfl) rfl dX7_perform_65 rfl (fun r3 S3 h3 => ?_)
              obtain ⟨t8, rfl⟩ := mcR.bool h3
              refine ks_zret rfl (ks_bo_z _) dX7_perform_68 ?_
              refine ⟨?_, ?_⟩
              · unfold pfS
                rw [if_neg (by omega), if_neg (by omega), if_pos (by omega)]
                exact (mcR.mono h3 (by omega)).L (by decide)
              · rw [pb_ (by omega)]
                exact (mcR.up h3).at hM (by decide)
        · refine ks_iload_n dX7_perform_37 rfl rfl ?_
          refine ks_bipush (x := nI 125) dX7_perform_38 (by decide) rfl ?_
          refine ks_icmp_gtN (tgt := 49) (by omega) (by decide) dX7_perform_40 (by decide) rfl (fun g40 => ?_) (fun g40 => ?_)
          · refine ks_iload_n dX7_perform_49 rfl rfl ?_
            refine ks_sipush (x := nI 139) dX7_perform_50 (by decide) rfl ?_
            refine ks_icmp_ltN (tgt := 69) (by omega) (by decide) dX7_perform_53 (by decide) rfl (fun g53 => ?_) (fun g53 => ?_)
            · refine ks_iload_n dX7_perform_69 rfl rfl ?_
              have hsw : op = 105 ∨ op = 130 ∨ op = 135 ∨ op = 136 ∨ op = 171 ∨ op = 177 ∨ (¬ op = 105 ∧ ¬ op = 130 ∧ ¬ op = 135 ∧ ¬ op = 136 ∧ ¬ op = 171 ∧ ¬ op = 177) := by omega
              rcases hsw with rfl | rfl | rfl | rfl | rfl | rfl | hsw
              · refine ks_lookup (off := 58) (tgt := 128) dX7_perform_70 (by decide) (by decide) (by decide) ?_
                have hop := (show 105 < 256 by decide)
                refine ks_aload_n dX7_perform_128 rfl rfl ?_
                refine ks_callV (n := 0) (M' := mX7_verify) (c_mc_verify (d := d + 2) hM hO) hM cl_X7 rfl kx_1700 kx_1702 kxp_47 kx_24 kx_1703 (by decide +kernel) rfl (by decide) (Nat.le_of_ble_eq_true rfl) rfl dX7_perform_129 rfl (fun r3 S3 h3 => ?_)
                obtain ⟨t8, rfl⟩ := mcR.bool h3
                refine ks_zret rfl (ks_bo_z _) dX7_perform_132 ?_
                refine ⟨?_, ?_⟩
                · unfold pfS
                  rw [if_neg (by omega), if_neg (by omega), if_neg (by omega), if_pos (by omega)]
                  exact (mcR.mono h3 (by omega)).L (by decide)
                · rw [pb_ (by omega)]
                  exact (mcR.up h3).at hM (by decide)
              · refine ks_lookup (off := 63) (tgt := 133) dX7_perform_70 (by decide) (by decide) (by decide) ?_
                have hop := (show 130 < 256 by decide)
                refine ks_aload_n dX7_perform_133 rfl rfl ?_
                refine ks_getf (T := TX7) (kf := 3) kx_646 rfl in_X7 cl_X7 (by decide) hM rfl dX7_perform_134 rfl ?_
                refine ks_getf (T := TX8) (kf := 3) kx_615 rfl in_X8 cl_X8 (by decide) hO.ob rfl dX7_perform_137 rfl ?_
                refine ks_if_leN (tgt := 175) (by omega) dX7_perform_140 (by decide) rfl (fun h1 => ?_) (fun h1 => ?_)
                · refine ks_iconst (x := nI 0) dX7_perform_175 (by decide) rfl ?_
                  refine ks_zret rfl rfl dX7_perform_176 ?_
                  refine ⟨?_, ?_⟩
                  · unfold pfS
                    rw [if_neg (by omega), if_neg (by omega), if_neg (by omega), if_neg (by omega), if_pos (by omega)]
                    rw [if_pos (by omega)]
                    exact (mcR.no (ks_up.rf _ _) hO).L (by decide)
                  · rw [pb_ (by omega)]
                    exact hM
                · obtain ⟨ar, fa, fc, f30, f31, f32, hgr, hel⟩ := hO.rows
                  have hk := hel 0 (by omega)
                  rw [Nat.sub_zero] at hk
                  obtain ⟨hx0, hc0, hb0⟩ := hk
                  refine ks_aload_n dX7_perform_143 rfl rfl ?_
                  refine ks_getf (T := TX7) (kf := 3) kx_646 rfl in_X7 cl_X7 (by decide) hM rfl dX7_perform_144 rfl ?_
                  refine ks_aload_n dX7_perform_147 rfl rfl ?_
                  refine ks_getf (T := TX7) (kf := 3) kx_646 rfl in_X7 cl_X7 (by decide) hM rfl dX7_perform_148 rfl ?_
                  refine ks_getf (T := TX8) (kf := 2) kx_613 rfl in_X8 cl_X8 (by decide) hO.ob rfl dX7_perform_151 rfl ?_
                  refine ks_aload_n dX7_perform_154 rfl rfl ?_
                  refine ks_getf (T := TX7) (kf := 3) kx_646 rfl in_X7 cl_X7 (by decide) hM rfl dX7_perform_155 rfl ?_
                  refine ks_getf (T := TX8) (kf := 3) kx_615 rfl in_X8 cl_X8 (by decide) hO.ob rfl dX7_perform_158 rfl ?_
                  refine ks_iconst (x := nI 1) dX7_perform_161 (by decide) rfl ?_
                  refine ks_subN (by omega) dX7_perform_162 rfl ?_
                  refine ks_ialdN (i := xs.length - 1) f32 rfl (by omega) (by decide) dX7_perform_163 rfl ?_
                  refine ks_i2lN (by omega) dX7_perform_164 rfl ?_
                  have nn : nsN (((xs.getD 0 []).length : Nat) : Int).natAbs ≤ 3 := nsN_le (k := 2) (show (xs.getD 0 []).length < 256 ^ 2 by omega)
                  refine ks_tl (y := iL (((xs.getD 0 []).length : Nat) : Int)) (by rw [hc0]; rfl) ?_
                  refine ks_callV (n := 1) (M' := mX8_addNumber) (c_st_addI (d := d + 1) (v := (((xs.getD 0 []).length : Nat) : Int)) hO (show (xs.getD 0 []).length < 2 ^ 48 by omega) (by omega) (by omega)) hO.ob cl_X8 rfl kx_1657 kx_1658 kx_1659 kx_25 kx_1660 (by decide +kernel) rfl (by decide) (Nat.le_of_ble_eq_true rfl) rfl dX7_perform_165 rfl (fun r1 T1 q1 => ?_)
                  obtain ⟨rfl, u1, o1⟩ := q1
                  have m1 := u1.1.at hM (by decide)
                  refine ks_if_eqZ (tgt := 175) dX7_perform_168 (by decide) rfl (fun h2 => ?_) (fun h2 => ?_)
                  · exact absurd h2 (by decide)
                  · refine ks_iconst (x := nI 1) dX7_perform_171 (by decide) rfl ?_
                    refine ks_goto (tgt := 176) dX7_perform_172 (by decide) ?_
                    refine ks_zret rfl rfl dX7_perform_176 ?_
                    refine ⟨?_, ?_⟩
                    · unfold pfS
                      rw [if_neg (by omega), if_neg (by omega), if_neg (by omega), if_neg (by omega), if_pos (by omega)]
                      rw [if_neg (by omega)]
                      exact (mcR.yes u1 (by omega) (by omega) o1).L (by decide)
                    · rw [pb_ (by omega)]
                      exact m1
              · refine ks_lookup (off := 107) (tgt := 177) dX7_perform_70 (by decide) (by decide) (by decide) ?_
                have hop := (show 135 < 256 by decide)
                refine ks_aload_n dX7_perform_177 rfl rfl ?_
                refine ks_callV (n := 0) (M' := mX7_compare) (c_mc_compare (d := d) hM hO (by omega) (by omega)) hM cl_X7 rfl kx_1704 kx_1706 kxp_48 kx_24 kx_1707 (by decide +kernel) rfl (by decide) (Nat.le_of_ble_eq_true rfl) rfl dX7_perform_178 rfl (fun r3 S3 h3 => ?_)
                obtain ⟨t8, rfl⟩ := mcR.bool h3
                refine ks_zret rfl (ks_bo_z _) dX7_perform_181 ?_
                refine ⟨?_, ?_⟩
                · unfold pfS
                  rw [if_neg (by omega), if_neg (by omega), if_neg (by omega), if_neg (by omega), if_neg (by omega), if_pos (by omega)]
                  exact (mcR.mono h3 (by omega)).L (by decide)
                · rw [pb_ (by omega)]
                  exact (mcR.up h3).at hM (by decide)
              · refine ks_lookup (off := 112) (tgt := 182) dX7_perform_70 (by decide) (by decide) (by decide) ?_
                have hop := (show 136 < 256 by decide)
                refine ks_aload_n dX7_perform_182 rfl rfl ?_
                refine ks_callV (n := 0) (M' := mX7_compare) (c_mc_compare (d := d) hM hO (by omega) (by omega)) hM cl_X7 rfl kx_1704 kx_1706 kxp_48 kx_24 kx_1707 (by decide +kernel) rfl (by decide) (Nat.le_of_ble_eq_true rfl) rfl dX7_perform_183 rfl (fun r3 S3 h3 => ?_)
                cases hcm : cmS xs ys with
                | none =>
                  rw [hcm] at h3
                  obtain ⟨rfl, u3, xs3, ys3, v3, o3⟩ := h3
                  refine ks_if_eqZ (tgt := 200) dX7_perform_186 (by decide) rfl (fun g1 => ?_) (fun g1 => ?_)
                  · refine ks_iconst (x := nI 0) dX7_perform_200 (by decide) rfl ?_
                    refine ks_zret rfl rfl dX7_perform_201 ?_
                    refine ⟨?_, ?_⟩
                    · unfold pfS
                      rw [if_neg (by omega), if_neg (by omega), if_neg (by omega), if_neg (by omega), if_neg (by omega), if_neg (by omega), if_pos (by omega)]
                      rw [hcm]
                      exact (mcR.no u3 o3).L (by decide)
                    · rw [pb_ (by omega)]
                      exact u3.at hM (by decide)
                  · exact absurd g1 (by decide)
                | some q3 =>
                  rw [hcm] at h3
                  obtain ⟨rfl, u3, v3, ha3, hb3, o3⟩ := h3
                  have M3 := u3.1.at hM (by decide)
                  refine ks_if_eqZ (tgt := 200) dX7_perform_186 (by decide) rfl (fun g1 => ?_) (fun g1 => ?_)
                  · exact absurd g1 (by decide)
                  · refine ks_aload_n dX7_perform_189 rfl rfl ?_
                    refine ks_callV (n := 0) (M' := mX7_verify) (c_mc_verify (d := d + 2) M3 o3) M3 cl_X7 rfl kx_1700 kx_1702 kxp_47 kx_24 kx_1703 (by decide +kernel) rfl (by decide) (Nat.le_of_ble_eq_true rfl) rfl dX7_perform_190 rfl (fun r4 S4 h4 => ?_)
                    have h5 : mcR LSt S u 1 (vfS q3.1 q3.2) r4 S4 := mcR.after u3 h4 ha3 hb3 (by omega)
                    obtain ⟨t8, rfl⟩ := mcR.bool h5
                    refine ks_if_eqZ (tgt := 200) dX7_perform_193 (by decide) rfl (fun g2 => ?_) (fun g2 => ?_)
                    · refine ks_iconst (x := nI 0) dX7_perform_200 (by decide) rfl ?_
                      refine ks_zret rfl rfl dX7_perform_201 ?_
                      subst g2
                      refine ⟨?_, ?_⟩
                      · unfold pfS
                        rw [if_neg (by omega), if_neg (by omega), if_neg (by omega), if_neg (by omega), if_neg (by omega), if_neg (by omega), if_pos (by omega)]
                        rw [hcm]
                        exact (mcR.mono h5 (by omega)).L (by decide)
                      · rw [pb_ (by omega)]
                        exact (mcR.up h5).at hM (by decide)
                    · refine ks_iconst (x := nI 1) dX7_perform_196 (by decide) rfl ?_
                      refine ks_goto (tgt := 201) dX7_perform_197 (by decide) ?_
                      refine ks_zret rfl rfl dX7_perform_201 ?_
                      subst g2
                      refine ⟨?_, ?_⟩
                      · unfold pfS
                        rw [if_neg (by omega), if_neg (by omega), if_neg (by omega), if_neg (by omega), if_neg (by omega), if_neg (by omega), if_pos (by omega)]
                        rw [hcm]
                        exact (mcR.mono h5 (by omega)).L (by decide)
                      · rw [pb_ (by omega)]
                        exact (mcR.up h5).at hM (by decide)
              · refine ks_lookup (off := 132) (tgt := 202) dX7_perform_70 (by decide) (by decide) (by decide) ?_
                have hop := (show 171 < 256 by decide)
                refine ks_aload_n dX7_perform_202 rfl rfl ?_
                refine ks_aload_n dX7_perform_203 rfl rfl ?_
                refine ks_getf (T := TX7) (kf := 10) kx_653 rfl in_X7 cl_X7 (by decide) hM rfl dX7_perform_204 rfl ?_
                refine ks_putf (T := TX7) (kf := 12) kx_655 rfl in_X7 tyX7_ok nmX7 cl_X7 (by decide) hM (Nat.le_of_ble_eq_true rfl) rfl rfl rfl rfl dX7_perform_207 rfl ?_
                refine ks_iconst (x := nI 1) dX7_perform_210 (by decide) rfl ?_
                refine ks_zret rfl rfl dX7_perform_211 ?_
                refine ⟨?_, ?_⟩
                · unfold pfS
                  rw [if_neg (by omega), if_neg (by omega), if_neg (by omega), if_neg (by omega), if_neg (by omega), if_neg (by omega), if_neg (by omega), if_pos (by omega)]
                  exact ⟨rfl, stV.of (ks_up_set S (a := 27) _ (L := [27]) (by decide)) (by decide) (by decide), u, by omega, by omega, hO.up (ks_up_set S (a := 27) _ (L := [27]) (by decide)) (by decide)⟩
                · rw [if_pos rfl]
                  exact (ks_set_same _ _ _)
              · refine ks_lookup (off := 142) (tgt := 212) dX7_perform_70 (by decide) (by decide) (by decide) ?_
                have hop := (show 177 < 256 by decide)
                refine ks_aload_n dX7_perform_212 rfl rfl ?_
                refine ks_getf (T := TX7) (kf := 3) kx_646 rfl in_X7 cl_X7 (by decide) hM rfl dX7_perform_213 rfl ?_
                refine ks_iconst (x := nI 0) dX7_perform_216 (by decide) rfl ?_
                refine ks_iconst (x := nI 5) dX7_perform_217 (by decide) rfl ?_
                refine ks_callV (n := 2) (M' := mX8_hasNumber) (c_st_hasNumber (d := d + 3) (c := 0) (mo := 5) hO (by decide) (by decide)) hO.ob cl_X8 rfl kx_1596 kx_1597 kx_1598 kx_25 kx_1599 (by decide +kernel) rfl (by decide) (Nat.le_of_ble_eq_true rfl) rfl dX7_perform_218 rfl (fun r1 T1 q1 => ?_)
                obtain ⟨t, rfl, hS1, ht⟩ := q1
                obtain rfl := hS1.symm
                rw [has_iff] at ht
                refine ks_if_eqZ (tgt := 250) dX7_perform_221 (by decide) rfl (fun h1 => ?_) (fun h1 => ?_)
                · refine ks_iconst (x := nI 0) dX7_perform_250 (by decide) rfl ?_
                  refine ks_zret rfl rfl dX7_perform_251 ?_
                  refine ⟨?_, ?_⟩
                  · unfold pfS
                    rw [if_neg (by omega), if_neg (by omega), if_neg (by omega), if_neg (by omega), if_neg (by omega), if_neg (by omega), if_neg (by omega), if_neg (by omega), if_pos (by omega)]
                    rw [if_neg (fun h => by have := ht.mpr h.1; rw [h1] at this; cases this)]
                    exact (mcR.no (ks_up.rf _ _) hO).L (by decide)
                  · rw [pb_ (by omega)]
                    exact hM
                · have h5 := ht.mp h1
                  have vb := (numV_b (hO.byte h5.1) h5.2).2 (by decide)
                  have vT : (iL (numV (xs.getD 0 []))).toInt = numV (xs.getD 0 []) := iL_T (by omega) (by omega)
                  refine ks_aload_n dX7_perform_224 rfl rfl ?_
                  refine ks_getf (T := TX7) (kf := 7) kx_650 rfl in_X7 cl_X7 (by decide) hM rfl dX7_perform_225 rfl ?_
                  refine ks_aload_n dX7_perform_228 rfl rfl ?_
                  refine ks_getf (T := TX7) (kf := 3) kx_646 rfl in_X7 cl_X7 (by decide) hM rfl dX7_perform_229 rfl ?_
                  refine ks_iconst (x := nI 0) dX7_perform_232 (by decide) rfl ?_
                  refine ks_callV (n := 1) (M' := mX8_number) (c_st_number (d := d + 3) (c := 0) hO (gD h5.1) h5.2) hO.ob cl_X8 rfl kx_1600 kx_1601 kx_1602 kx_25 kx_1603 (by decide +kernel) rfl (by decide) (Nat.le_of_ble_eq_true rfl) rfl dX7_perform_233 rfl (fun r2 T2 q2 => ?_)
                  obtain ⟨rfl, hS2⟩ := q2
                  obtain rfl := hS2.symm
                  refine ks_aload_n dX7_perform_236 rfl rfl ?_
                  refine ks_getf (T := TX7) (kf := 8) kx_651 rfl in_X7 cl_X7 (by decide) hM rfl dX7_perform_237 rfl ?_
                  refine ks_callV (n := 2) (M' := mX10_locksUntil) (c_tv_locksUntil (d := d + 1) (q := iL (numV (xs.getD 0 []))) hV hy9 hg9 hL9 hN9 hi9) hV.1 cl_X10 rfl kx_1712 kx_1713 kx_1714 kx_23 kx_1715 (by decide +kernel) rfl (by decide) (Nat.le_of_ble_eq_true rfl) rfl dX7_perform_240 rfl (fun r3 S3 h3 => ?_)
                  obtain ⟨t3, rfl, hS3, ht3⟩ := h3
                  obtain rfl := hS3.symm
                  rw [vT] at ht3
                  refine ks_if_eqZ (tgt := 250) dX7_perform_243 (by decide) rfl (fun h2 => ?_) (fun h2 => ?_)
                  · refine ks_iconst (x := nI 0) dX7_perform_250 (by decide) rfl ?_
                    refine ks_zret rfl rfl dX7_perform_251 ?_
                    refine ⟨?_, ?_⟩
                    · unfold pfS
                      rw [if_neg (by omega), if_neg (by omega), if_neg (by omega), if_neg (by omega), if_neg (by omega), if_neg (by omega), if_neg (by omega), if_neg (by omega), if_pos (by omega)]
                      rw [if_neg (fun h => by have := ht3.mpr (of_decide_eq_true h.2); rw [h2] at this; cases this)]
                      exact (mcR.no (ks_up.rf _ _) hO).L (by decide)
                    · rw [pb_ (by omega)]
                      exact hM
                  · refine ks_iconst (x := nI 1) dX7_perform_246 (by decide) rfl ?_
                    refine ks_goto (tgt := 251) dX7_perform_247 (by decide) ?_
                    refine ks_zret rfl rfl dX7_perform_251 ?_
                    refine ⟨?_, ?_⟩
                    · unfold pfS
                      rw [if_neg (by omega), if_neg (by omega), if_neg (by omega), if_neg (by omega), if_neg (by omega), if_neg (by omega), if_neg (by omega), if_neg (by omega), if_pos (by omega)]
                      rw [if_pos ⟨h5, decide_eq_true (ht3.mp h2)⟩]
                      exact (mcR.yes (stU.rf _ _) (by omega) (by omega) hO).L (by decide)
                    · rw [pb_ (by omega)]
                      exact hM
              · refine ks_lookup (off := 182) (tgt := 252) dX7_perform_70 (by decide) ((show ∀ q, q < 256 → (¬ q = 105 ∧ ¬ q = 130 ∧ ¬ q = 135 ∧ ¬ q = 136 ∧ ¬ q = 171 ∧ ¬ q = 177) → Op.lookupswitch.offset [(105, 58), (130, 63), (135, 107), (136, 112), (171, 132), (177, 142)] 182 (nI q).toInt = 182 by decide +kernel) _ hop hsw) (by decide) ?_
                refine ks_iload_n dX7_perform_252 rfl rfl ?_
                refine ks_bipush (x := nI 97) dX7_perform_253 (by decide) rfl ?_
                refine ks_icmp_eqN (tgt := 279) (by omega) (by decide) dX7_perform_255 (by decide) rfl (fun hc255 => ?_) (fun hc255 => ?_)
                · refine ks_iconst (x := nI 1) dX7_perform_279 (by decide) rfl ?_
                  refine ks_goto (tgt := 284) dX7_perform_280 (by decide) ?_
                  refine ks_zret rfl rfl dX7_perform_284 ?_
                  refine ⟨?_, ?_⟩
                  · unfold pfS
                    rw [if_neg (by omega), if_neg (by omega), if_neg (by omega), if_neg (by omega), if_neg (by omega), if_neg (by omega), if_neg (by omega), if_neg (by omega), if_neg (by omega), if_pos (by omega)]
                    exact (mcR.yes (stU.rf _ _) (by omega) (by omega) hO).L (by decide)
                  · rw [pb_ (by omega)]
                    exact hM
                · refine ks_iload_n dX7_perform_258 rfl rfl ?_
                  refine ks_sipush (x := nI 176) dX7_perform_259 (by decide) rfl ?_
                  refine ks_icmp_eqN (tgt := 279) (by omega) (by decide) dX7_perform_262 (by decide) rfl (fun hc262 => ?_) (fun hc262 => ?_)
                  · refine ks_iconst (x := nI 1) dX7_perform_279 (by decide) rfl ?_
                    refine ks_goto (tgt := 284) dX7_perform_280 (by decide) ?_
                    refine ks_zret rfl rfl dX7_perform_284 ?_
                    refine ⟨?_, ?_⟩
                    · unfold pfS
                      rw [if_neg (by omega), if_neg (by omega), if_neg (by omega), if_neg (by omega), if_neg (by omega), if_neg (by omega), if_neg (by omega), if_neg (by omega), if_neg (by omega), if_pos (by omega)]
                      exact (mcR.yes (stU.rf _ _) (by omega) (by omega) hO).L (by decide)
                    · rw [pb_ (by omega)]
                      exact hM
                  · refine ks_iload_n dX7_perform_265 rfl rfl ?_
                    refine ks_sipush (x := nI 178) dX7_perform_266 (by decide) rfl ?_
                    refine ks_icmp_ltN (tgt := 283) (by omega) (by decide) dX7_perform_269 (by decide) rfl (fun hc269 => ?_) (fun hc269 => ?_)
                    · refine ks_iconst (x := nI 0) dX7_perform_283 (by decide) rfl ?_
                      refine ks_zret rfl rfl dX7_perform_284 ?_
                      refine ⟨?_, ?_⟩
                      · unfold pfS
                        rw [if_neg (by omega), if_neg (by omega), if_neg (by omega), if_neg (by omega), if_neg (by omega), if_neg (by omega), if_neg (by omega), if_neg (by omega), if_neg (by omega), if_neg (by omega)]
                        exact (mcR.no (ks_up.rf _ _) hO).L (by decide)
                      · rw [pb_ (by omega)]
                        exact hM
                    · refine ks_iload_n dX7_perform_272 rfl rfl ?_
                      refine ks_sipush (x := nI 185) dX7_perform_273 (by decide) rfl ?_
                      refine ks_icmp_gtN (tgt := 283) (by omega) (by decide) dX7_perform_276 (by decide) rfl (fun hc276 => ?_) (fun hc276 => ?_)
                      · refine ks_iconst (x := nI 0) dX7_perform_283 (by decide) rfl ?_
                        refine ks_zret rfl rfl dX7_perform_284 ?_
                        refine ⟨?_, ?_⟩
                        · unfold pfS
                          rw [if_neg (by omega), if_neg (by omega), if_neg (by omega), if_neg (by omega), if_neg (by omega), if_neg (by omega), if_neg (by omega), if_neg (by omega), if_neg (by omega), if_neg (by omega)]
                          exact (mcR.no (ks_up.rf _ _) hO).L (by decide)
                        · rw [pb_ (by omega)]
                          exact hM
                      · refine ks_iconst (x := nI 1) dX7_perform_279 (by decide) rfl ?_
                        refine ks_goto (tgt := 284) dX7_perform_280 (by decide) ?_
                        refine ks_zret rfl rfl dX7_perform_284 ?_
                        refine ⟨?_, ?_⟩
                        · unfold pfS
                          rw [if_neg (by omega), if_neg (by omega), if_neg (by omega), if_neg (by omega), if_neg (by omega), if_neg (by omega), if_neg (by omega), if_neg (by omega), if_neg (by omega), if_pos (by omega)]
                          exact (mcR.yes (stU.rf _ _) (by omega) (by omega) hO).L (by decide)
                        · rw [pb_ (by omega)]
                          exact hM
            · refine ks_iload_n dX7_perform_56 rfl rfl ?_
              refine ks_sipush (x := nI 165) dX7_perform_57 (by decide) rfl ?_
              refine ks_icmp_gtN (tgt := 69) (by omega) (by decide) dX7_perform_60 (by decide) rfl (fun g60 => ?_) (fun g60 => ?_)
              · refine ks_iload_n dX7_perform_69 rfl rfl ?_
                have hsw : op = 105 ∨ op = 130 ∨ op = 135 ∨ op = 136 ∨ op = 171 ∨ op = 177 ∨ (¬ op = 105 ∧ ¬ op = 130 ∧ ¬ op = 135 ∧ ¬ op = 136 ∧ ¬ op = 171 ∧ ¬ op = 177) := by omega
                rcases hsw with rfl | rfl | rfl | rfl | rfl | rfl | hsw
                · refine ks_lookup (off := 58) (tgt := 128) dX7_perform_70 (by decide) (by decide) (by decide) ?_
                  have hop := (show 105 < 256 by decide)
                  refine ks_aload_n dX7_perform_128 rfl rfl ?_
                  refine ks_callV (n := 0) (M' := mX7_verify) (c_mc_verify (d := d + 2) hM hO) hM cl_X7 rfl kx_1700 kx_1702 kxp_47 kx_24 kx_1703 (by decide +kernel) rfl (by decide) (Nat.le_of_ble_eq_true rfl) rfl dX7_perform_129 rfl (fun r3 S3 h3 => ?_)
                  obtain ⟨t8, rfl⟩ := mcR.bool h3
                  refine ks_zret rfl (ks_bo_z _) dX7_perform_132 ?_
                  refine ⟨?_, ?_⟩
                  · unfold pfS
                    rw [if_neg (by omega), if_neg (by omega), if_neg (by omega), if_pos (by omega)]
                    exact (mcR.mono h3 (by omega)).L (by decide)
                  · rw [pb_ (by omega)]
                    exact (mcR.up h3).at hM (by decide)
                · refine ks_lookup (off := 63) (tgt := 133) dX7_perform_70 (by decide) (by decide) (by decide) ?_
                  have hop := (show 130 < 256 by decide)
                  refine ks_aload_n dX7_perform_133 rfl rfl ?_
                  refine ks_getf (T := TX7) (kf := 3) kx_646 rfl in_X7 cl_X7 (by decide) hM rfl dX7_perform_134 rfl ?_
                  refine ks_getf (T := TX8) (kf := 3) kx_615 rfl in_X8 cl_X8 (by decide) hO.ob rfl dX7_perform_137 rfl ?_
                  refine ks_if_leN (tgt := 175) (by omega) dX7_perform_140 (by decide) rfl (fun h1 => ?_) (fun h1 => ?_)
                  · refine ks_iconst (x := nI 0) dX7_perform_175 (by decide) rfl ?_
                    refine ks_zret rfl rfl dX7_perform_176 ?_
                    refine ⟨?_, ?_⟩
                    · unfold pfS
                      rw [if_neg (by omega), if_neg (by omega), if_neg (by omega), if_neg (by omega), if_pos (by omega)]
                      rw [if_pos (by omega)]
                      exact (mcR.no (ks_up.rf _ _) hO).L (by decide)
                    · rw [pb_ (by omega)]
                      exact hM
                  · obtain ⟨ar, fa, fc, f30, f31, f32, hgr, hel⟩ := hO.rows
                    have hk := hel 0 (by omega)
                    rw [Nat.sub_zero] at hk
                    obtain ⟨hx0, hc0, hb0⟩ := hk
                    refine ks_aload_n dX7_perform_143 rfl rfl ?_
                    refine ks_getf (T := TX7) (kf := 3) kx_646 rfl in_X7 cl_X7 (by decide) hM rfl dX7_perform_144 rfl ?_
                    refine ks_aload_n dX7_perform_147 rfl rfl ?_
                    refine ks_getf (T := TX7) (kf := 3) kx_646 rfl in_X7 cl_X7 (by decide) hM rfl dX7_perform_148 rfl ?_
                    refine ks_getf (T := TX8) (kf := 2) kx_613 rfl in_X8 cl_X8 (by decide) hO.ob rfl dX7_perform_151 rfl ?_
                    refine ks_aload_n dX7_perform_154 rfl rfl ?_
                    refine ks_getf (T := TX7) (kf := 3) kx_646 rfl in_X7 cl_X7 (by decide) hM rfl dX7_perform_155 rfl ?_
                    refine ks_getf (T := TX8) (kf := 3) kx_615 rfl in_X8 cl_X8 (by decide) hO.ob rfl dX7_perform_158 rfl ?_
                    refine ks_iconst (x := nI 1) dX7_perform_161 (by decide) rfl ?_
                    refine ks_subN (by omega) dX7_perform_162 rfl ?_
                    refine ks_ialdN (i := xs.length - 1) f32 rfl (by omega) (by decide) dX7_perform_163 rfl ?_
                    refine ks_i2lN (by omega) dX7_perform_164 rfl ?_
                    have nn : nsN (((xs.getD 0 []).length : Nat) : Int).natAbs ≤ 3 := nsN_le (k := 2) (show (xs.getD 0 []).length < 256 ^ 2 by omega)
                    refine ks_tl (y := iL (((xs.getD 0 []).length : Nat) : Int)) (by rw [hc0]; rfl) ?_
                    refine ks_callV (n := 1) (M' := mX8_addNumber) (c_st_addI (d := d + 1) (v := (((xs.getD 0 []).length : Nat) : Int)) hO (show (xs.getD 0 []).length < 2 ^ 48 by omega) (by omega) (by omega)) hO.ob cl_X8 rfl kx_1657 kx_1658 kx_1659 kx_25 kx_1660 (by decide +kernel) rfl (by decide) (Nat.le_of_ble_eq_true rfl) rfl dX7_perform_165 rfl (fun r1 T1 q1 => ?_)
                    obtain ⟨rfl, u1, o1⟩ := q1
                    have m1 := u1.1.at hM (by decide)
                    refine ks_if_eqZ (tgt := 175) dX7_perform_168 (by decide) rfl (fun h2 => ?_) (fun h2 => ?_)
                    · exact absurd h2 (by decide)
                    · refine ks_iconst (x := nI 1) dX7_perform_171 (by decide) rfl ?_
                      refine ks_goto (tgt := 176) dX7_perform_172 (by decide) ?_
                      refine ks_zret rfl rfl dX7_perform_176 ?_
                      refine ⟨?_, ?_⟩
                      · unfold pfS
                        rw [if_neg (by omega), if_neg (by omega), if_neg (by omega), if_neg (by omega), if_pos (by omega)]
                        rw [if_neg (by omega)]
                        exact (mcR.yes u1 (by omega) (by omega) o1).L (by decide)
                      · rw [pb_ (by omega)]
                        exact m1
                · refine ks_lookup (off := 107) (tgt := 177) dX7_perform_70 (by decide) (by decide) (by decide) ?_
                  have hop := (show 135 < 256 by decide)
                  refine ks_aload_n dX7_perform_177 rfl rfl ?_
                  refine ks_callV (n := 0) (M' := mX7_compare) (c_mc_compare (d := d) hM hO (by omega) (by omega)) hM cl_X7 rfl kx_1704 kx_1706 kxp_48 kx_24 kx_1707 (by decide +kernel) rfl (by decide) (Nat.le_of_ble_eq_true rfl) rfl dX7_perform_178 rfl (fun r3 S3 h3 => ?_)
                  obtain ⟨t8, rfl⟩ := mcR.bool h3
                  refine ks_zret rfl (ks_bo_z _) dX7_perform_181 ?_
                  refine ⟨?_, ?_⟩
                  · unfold pfS
                    rw [if_neg (by omega), if_neg (by omega), if_neg (by omega), if_neg (by omega), if_neg (by omega), if_pos (by omega)]
                    exact (mcR.mono h3 (by omega)).L (by decide)
                  · rw [pb_ (by omega)]
                    exact (mcR.up h3).at hM (by decide)
                · refine ks_lookup (off := 112) (tgt := 182) dX7_perform_70 (by decide) (by decide) (by decide) ?_
                  have hop := (show 136 < 256 by decide)
                  refine ks_aload_n dX7_perform_182 rfl rfl ?_
                  refine ks_callV (n := 0) (M' := mX7_compare) (c_mc_compare (d := d) hM hO (by omega) (by omega)) hM cl_X7 rfl kx_1704 kx_1706 kxp_48 kx_24 kx_1707 (by decide +kernel) rfl (by decide) (Nat.le_of_ble_eq_true rfl) rfl dX7_perform_183 rfl (fun r3 S3 h3 => ?_)
                  cases hcm : cmS xs ys with
                  | none =>
                    rw [hcm] at h3
                    obtain ⟨rfl, u3, xs3, ys3, v3, o3⟩ := h3
                    refine ks_if_eqZ (tgt := 200) dX7_perform_186 (by decide) rfl (fun g1 => ?_) (fun g1 => ?_)
                    · refine ks_iconst (x := nI 0) dX7_perform_200 (by decide) rfl ?_
                      refine ks_zret rfl rfl dX7_perform_201 ?_
                      refine ⟨?_, ?_⟩
                      · unfold pfS
                        rw [if_neg (by omega), if_neg (by omega), if_neg (by omega), if_neg (by omega), if_neg (by omega), if_neg (by omega), if_pos (by omega)]
                        rw [hcm]
                        exact (mcR.no u3 o3).L (by decide)
                      · rw [pb_ (by omega)]
                        exact u3.at hM (by decide)
                    · exact absurd g1 (by decide)
                  | some q3 =>
                    rw [hcm] at h3
                    obtain ⟨rfl, u3, v3, ha3, hb3, o3⟩ := h3
                    have M3 := u3.1.at hM (by decide)
                    refine ks_if_eqZ (tgt := 200) dX7_perform_186 (by decide) rfl (fun g1 => ?_) (fun g1 => ?_)
                    · exact absurd g1 (by decide)
                    · refine ks_aload_n dX7_perform_189 rfl rfl ?_
                      refine ks_callV (n := 0) (M' := mX7_verify) (c_mc_verify (d := d + 2) M3 o3) M3 cl_X7 rfl kx_1700 kx_1702 kxp_47 kx_24 kx_1703 (by decide +kernel) rfl (by decide) (Nat.le_of_ble_eq_true rfl) rfl dX7_perform_190 rfl (fun r4 S4 h4 => ?_)
                      have h5 : mcR LSt S u 1 (vfS q3.1 q3.2) r4 S4 := mcR.after u3 h4 ha3 hb3 (by omega)
                      obtain ⟨t8, rfl⟩ := mcR.bool h5
                      refine ks_if_eqZ (tgt := 200) dX7_perform_193 (by decide) rfl (fun g2 => ?_) (fun g2 => ?_)
                      · refine ks_iconst (x := nI 0) dX7_perform_200 (by decide) rfl ?_
                        refine ks_zret rfl rfl dX7_perform_201 ?_
                        subst g2
                        refine ⟨?_, ?_⟩
                        · unfold pfS
                          rw [if_neg (by omega), if_neg (by omega), if_neg (by omega), if_neg (by omega), if_neg (by omega), if_neg (by omega), if_pos (by omega)]
                          rw [hcm]
                          exact (mcR.mono h5 (by omega)).L (by decide)
                        · rw [pb_ (by omega)]
                          exact (mcR.up h5).at hM (by decide)
                      · refine ks_iconst (x := nI 1) dX7_perform_196 (by decide) rfl ?_
                        refine ks_goto (tgt := 201) dX7_perform_197 (by decide) ?_
                        refine ks_zret rfl rfl dX7_perform_201 ?_
                        subst g2
                        refine ⟨?_, ?_⟩
                        · unfold pfS
                          rw [if_neg (by omega), if_neg (by omega), if_neg (by omega), if_neg (by omega), if_neg (by omega), if_neg (by omega), if_pos (by omega)]
                          rw [hcm]
                          exact (mcR.mono h5 (by omega)).L (by decide)
                        · rw [pb_ (by omega)]
                          exact (mcR.up h5).at hM (by decide)
                · refine ks_lookup (off := 132) (tgt := 202) dX7_perform_70 (by decide) (by decide) (by decide) ?_
                  have hop := (show 171 < 256 by decide)
                  refine ks_aload_n dX7_perform_202 rfl rfl ?_
                  refine ks_aload_n dX7_perform_203 rfl rfl ?_
                  refine ks_getf (T := TX7) (kf := 10) kx_653 rfl in_X7 cl_X7 (by decide) hM rfl dX7_perform_204 rfl ?_
                  refine ks_putf (T := TX7) (kf := 12) kx_655 rfl in_X7 tyX7_ok nmX7 cl_X7 (by decide) hM (Nat.le_of_ble_eq_true rfl) rfl rfl rfl rfl dX7_perform_207 rfl ?_
                  refine ks_iconst (x := nI 1) dX7_perform_210 (by decide) rfl ?_
                  refine ks_zret rfl rfl dX7_perform_211 ?_
                  refine ⟨?_, ?_⟩
                  · unfold pfS
                    rw [if_neg (by omega), if_neg (by omega), if_neg (by omega), if_neg (by omega), if_neg (by omega), if_neg (by omega), if_neg (by omega), if_pos (by omega)]
                    exact ⟨rfl, stV.of (ks_up_set S (a := 27) _ (L := [27]) (by decide)) (by decide) (by decide), u, by omega, by omega, hO.up (ks_up_set S (a := 27) _ (L := [27]) (by decide)) (by decide)⟩
                  · rw [if_pos rfl]
                    exact (ks_set_same _ _ _)
                · refine ks_lookup (off := 142) (tgt := 212) dX7_perform_70 (by decide) (by decide) (by decide) ?_
                  have hop := (show 177 < 256 by decide)
                  refine ks_aload_n dX7_perform_212 rfl rfl ?_
                  refine ks_getf (T := TX7) (kf := 3) kx_646 rfl in_X7 cl_X7 (by decide) hM rfl dX7_perform_213 rfl ?_
                  refine ks_iconst (x := nI 0) dX7_perform_216 (by decide) rfl ?_
                  refine ks_iconst (x := nI 5) dX7_perform_217 (by decide) rfl ?_
                  refine ks_callV (n := 2) (M' := mX8_hasNumber) (c_st_hasNumber (d := d + 3) (c := 0) (mo := 5) hO (by decide) (by decide)) hO.ob cl_X8 rfl kx_1596 kx_1597 kx_1598 kx_25 kx_1599 (by decide +kernel) rfl (by decide) (Nat.le_of_ble_eq_true rfl) rfl dX7_perform_218 rfl (fun r1 T1 q1 => ?_)
                  obtain ⟨t, rfl, hS1, ht⟩ := q1
                  obtain rfl := hS1.symm
                  rw [has_iff] at ht
                  refine ks_if_eqZ (tgt := 250) dX7_perform_221 (by decide) rfl (fun h1 => ?_) (fun h1 => ?_)
                  · refine ks_iconst (x := nI 0) dX7_perform_250 (by decide) rfl ?_
                    refine ks_zret rfl rfl dX7_perform_251 ?_
                    refine ⟨?_, ?_⟩
                    · unfold pfS
                      rw [if_neg (by omega), if_neg (by omega), if_neg (by omega), if_neg (by omega), if_neg (by omega), if_neg (by omega), if_neg (by omega), if_neg (by omega), if_pos (by omega)]
                      rw [if_neg (fun h => by have := ht.mpr h.1; rw [h1] at this; cases this)]
                      exact (mcR.no (ks_up.rf _ _) hO).L (by decide)
                    · rw [pb_ (by omega)]
                      exact hM
                  · have h5 := ht.mp h1
                    have vb := (numV_b (hO.byte h5.1) h5.2).2 (by decide)
                    have vT : (iL (numV (xs.getD 0 []))).toInt = numV (xs.getD 0 []) := iL_T (by omega) (by omega)
                    refine ks_aload_n dX7_perform_224 rfl rfl ?_
                    refine ks_getf (T := TX7) (kf := 7) kx_650 rfl in_X7 cl_X7 (by decide) hM rfl dX7_perform_225 rfl ?_
                    refine ks_aload_n dX7_perform_228 rfl rfl ?_
                    refine ks_getf (T := TX7) (kf := 3) kx_646 rfl in_X7 cl_X7 (by decide) hM rfl dX7_perform_229 rfl ?_
                    refine ks_iconst (x := nI 0) dX7_perform_232 (by decide) rfl ?_
                    refine ks_callV (n := 1) (M' := mX8_number) (c_st_number (d := d + 3) (c := 0) hO (gD h5.1) h5.2) hO.ob cl_X8 rfl kx_1600 kx_1601 kx_1602 kx_25 kx_1603 (by decide +kernel) rfl (by decide) (Nat.le_of_ble_eq_true rfl) rfl dX7_perform_233 rfl (fun r2 T2 q2 => ?_)
                    obtain ⟨rfl, hS2⟩ := q2
                    obtain rfl := hS2.symm
                    refine ks_aload_n dX7_perform_236 rfl rfl ?_
                    refine ks_getf (T := TX7) (kf := 8) kx_651 rfl in_X7 cl_X7 (by decide) hM rfl dX7_perform_237 rfl ?_
                    refine ks_callV (n := 2) (M' := mX10_locksUntil) (c_tv_locksUntil (d := d + 1) (q := iL (numV (xs.getD 0 []))) hV hy9 hg9 hL9 hN9 hi9) hV.1 cl_X10 rfl kx_1712 kx_1713 kx_1714 kx_23 kx_1715 (by decide +kernel) rfl (by decide) (Nat.le_of_ble_eq_true rfl) rfl dX7_perform_240 rfl (fun r3 S3 h3 => ?_)
                    obtain ⟨t3, rfl, hS3, ht3⟩ := h3
                    obtain rfl := hS3.symm
                    rw [vT] at ht3
                    refine ks_if_eqZ (tgt := 250) dX7_perform_243 (by decide) rfl (fun h2 => ?_) (fun h2 => ?_)
                    · refine ks_iconst (x := nI 0) dX7_perform_250 (by decide) rfl ?_
                      refine ks_zret rfl rfl dX7_perform_251 ?_
                      refine ⟨?_, ?_⟩
                      · unfold pfS
                        rw [if_neg (by omega), if_neg (by omega), if_neg (by omega), if_neg (by omega), if_neg (by omega), if_neg (by omega), if_neg (by omega), if_neg (by omega), if_pos (by omega)]
                        rw [if_neg (fun h => by have := ht3.mpr (of_decide_eq_true h.2); rw [h2] at this; cases this)]
                        exact (mcR.no (ks_up.rf _ _) hO).L (by decide)
                      · rw [pb_ (by omega)]
                        exact hM
                    · refine ks_iconst (x := nI 1) dX7_perform_246 (by decide) rfl ?_
                      refine ks_goto (tgt := 251) dX7_perform_247 (by decide) ?_
                      refine ks_zret rfl rfl dX7_perform_251 ?_
                      refine ⟨?_, ?_⟩
                      · unfold pfS
                        rw [if_neg (by omega), if_neg (by omega), if_neg (by omega), if_neg (by omega), if_neg (by omega), if_neg (by omega), if_neg (by omega), if_neg (by omega), if_pos (by omega)]
                        rw [if_pos ⟨h5, decide_eq_true (ht3.mp h2)⟩]
                        exact (mcR.yes (stU.rf _ _) (by omega) (by omega) hO).L (by decide)
                      · rw [pb_ (by omega)]
                        exact hM
                · refine ks_lookup (off := 182) (tgt := 252) dX7_perform_70 (by decide) ((show ∀ q, q < 256 → (¬ q = 105 ∧ ¬ q = 130 ∧ ¬ q = 135 ∧ ¬ q = 136 ∧ ¬ q = 171 ∧ ¬ q = 177) → Op.lookupswitch.offset [(105, 58), (130, 63), (135, 107), (136, 112), (171, 132), (177, 142)] 182 (nI q).toInt = 182 by decide +kernel) _ hop hsw) (by decide) ?_
                  refine ks_iload_n dX7_perform_252 rfl rfl ?_
                  refine ks_bipush (x := nI 97) dX7_perform_253 (by decide) rfl ?_
                  refine ks_icmp_eqN (tgt := 279) (by omega) (by decide) dX7_perform_255 (by decide) rfl (fun hc255 => ?_) (fun hc255 => ?_)
                  · refine ks_iconst (x := nI 1) dX7_perform_279 (by decide) rfl ?_
                    refine ks_goto (tgt := 284) dX7_perform_280 (by decide) ?_
                    refine ks_zret rfl rfl dX7_perform_284 ?_
                    refine ⟨?_, ?_⟩
                    · unfold pfS
                      rw [if_neg (by omega), if_neg (by omega), if_neg (by omega), if_neg (by omega), if_neg (by omega), if_neg (by omega), if_neg (by omega), if_neg (by omega), if_neg (by omega), if_pos (by omega)]
                      exact (mcR.yes (stU.rf _ _) (by omega) (by omega) hO).L (by decide)
                    · rw [pb_ (by omega)]
                      exact hM
                  · refine ks_iload_n dX7_perform_258 rfl rfl ?_
                    refine ks_sipush (x := nI 176) dX7_perform_259 (by decide) rfl ?_
                    refine ks_icmp_eqN (tgt := 279) (by omega) (by decide) dX7_perform_262 (by decide) rfl (fun hc262 => ?_) (fun hc262 => ?_)
                    · refine ks_iconst (x := nI 1) dX7_perform_279 (by decide) rfl ?_
                      refine ks_goto (tgt := 284) dX7_perform_280 (by decide) ?_
                      refine ks_zret rfl rfl dX7_perform_284 ?_
                      refine ⟨?_, ?_⟩
                      · unfold pfS
                        rw [if_neg (by omega), if_neg (by omega), if_neg (by omega), if_neg (by omega), if_neg (by omega), if_neg (by omega), if_neg (by omega), if_neg (by omega), if_neg (by omega), if_pos (by omega)]
                        exact (mcR.yes (stU.rf _ _) (by omega) (by omega) hO).L (by decide)
                      · rw [pb_ (by omega)]
                        exact hM
                    · refine ks_iload_n dX7_perform_265 rfl rfl ?_
                      refine ks_sipush (x := nI 178) dX7_perform_266 (by decide) rfl ?_
                      refine ks_icmp_ltN (tgt := 283) (by omega) (by decide) dX7_perform_269 (by decide) rfl (fun hc269 => ?_) (fun hc269 => ?_)
                      · refine ks_iconst (x := nI 0) dX7_perform_283 (by decide) rfl ?_
                        refine ks_zret rfl rfl dX7_perform_284 ?_
                        refine ⟨?_, ?_⟩
                        · unfold pfS
                          rw [if_neg (by omega), if_neg (by omega), if_neg (by omega), if_neg (by omega), if_neg (by omega), if_neg (by omega), if_neg (by omega), if_neg (by omega), if_neg (by omega), if_neg (by omega)]
                          exact (mcR.no (ks_up.rf _ _) hO).L (by decide)
                        · rw [pb_ (by omega)]
                          exact hM
                      · refine ks_iload_n dX7_perform_272 rfl rfl ?_
                        refine ks_sipush (x := nI 185) dX7_perform_273 (by decide) rfl ?_
                        refine ks_icmp_gtN (tgt := 283) (by omega) (by decide) dX7_perform_276 (by decide) rfl (fun hc276 => ?_) (fun hc276 => ?_)
                        · refine ks_iconst (x := nI 0) dX7_perform_283 (by decide) rfl ?_
                          refine ks_zret rfl rfl dX7_perform_284 ?_
                          refine ⟨?_, ?_⟩
                          · unfold pfS
                            rw [if_neg (by omega), if_neg (by omega), if_neg (by omega), if_neg (by omega), if_neg (by omega), if_neg (by omega), if_neg (by omega), if_neg (by omega), if_neg (by omega), if_neg (by omega)]
                            exact (mcR.no (ks_up.rf _ _) hO).L (by decide)
                          · rw [pb_ (by omega)]
                            exact hM
                        · refine ks_iconst (x := nI 1) dX7_perform_279 (by decide) rfl ?_
                          refine ks_goto (tgt := 284) dX7_perform_280 (by decide) ?_
                          refine ks_zret rfl rfl dX7_perform_284 ?_
                          refine ⟨?_, ?_⟩
                          · unfold pfS
                            rw [if_neg (by omega), if_neg (by omega), if_neg (by omega), if_neg (by omega), if_neg (by omega), if_neg (by omega), if_neg (by omega), if_neg (by omega), if_neg (by omega), if_pos (by omega)]
                            exact (mcR.yes (stU.rf _ _) (by omega) (by omega) hO).L (by decide)
                          · rw [pb_ (by omega)]
                            exact hM
              · refine ks_aload_n dX7_perform_63 rfl rfl ?_
                refine ks_iload_n dX7_perform_64 rfl rfl ?_
                refine ks_callV (n := 1) (M' := mX7_reckon) (c_mc_reckon (d := d) hM hO (by omega) (by omega) hl (by omega)) hM cl_X7 rfl kx_1687 kx_1689 kxp_46 kx_24 kx_1690 (by decide +kernel) rfl (by decide) (Nat.le_of_ble_eq_true rfl) rfl dX7_perform_65 rfl (fun r3 S3 h3 => ?_)
                obtain ⟨t8, rfl⟩ := mcR.bool h3
                refine ks_zret rfl (ks_bo_z _) dX7_perform_68 ?_
                refine ⟨?_, ?_⟩
                · unfold pfS
                  rw [if_neg (by omega), if_neg (by omega), if_pos (by omega)]
                  exact (mcR.mono h3 (by omega)).L (by decide)
                · rw [pb_ (by omega)]
                  exact (mcR.up h3).at hM (by decide)
          · refine ks_aload_n dX7_perform_43 rfl rfl ?_
            refine ks_iload_n dX7_perform_44 rfl rfl ?_
            refine ks_callV (n := 1) (M' := mX7_move) (c_mc_move (d := d) hM hO hK (by omega) (by omega) hl hly (by omega)) hM cl_X7 rfl kx_1661 kx_1663 kxp_44 kx_24 kx_1664 (by decide +kernel) rfl (by decide) (Nat.le_of_ble_eq_true rfl) rfl dX7_perform_45 rfl (fun r3 S3 h3 => ?_)
            obtain ⟨t8, rfl⟩ := mcR.bool h3
            refine ks_zret rfl (ks_bo_z _) dX7_perform_48 ?_
            refine ⟨?_, ?_⟩
            · unfold pfS
              rw [if_neg (by omega), if_pos (by omega)]
              exact (mcR.mono h3 (by omega)).L (by decide)
            · rw [pb_ (by omega)]
              exact (mcR.up h3).at hM (by decide)
      · refine ks_aload_n dX7_perform_18 rfl rfl ?_
        refine ks_getf (T := TX7) (kf := 3) kx_646 rfl in_X7 cl_X7 (by decide) hM rfl dX7_perform_19 rfl ?_
        refine ks_iload_n dX7_perform_22 rfl rfl ?_
        refine ks_bipush (x := nI 80) dX7_perform_23 (by decide) rfl ?_
        refine ks_isub dX7_perform_25 rfl ?_
        refine ks_i2l dX7_perform_26 rfl ?_
        have na : ((op : Int) - 80).natAbs < 128 := by omega
        have nn := nsN_small na
        refine ks_tl (y := iL ((op : Int) - 80)) (sub80 hop) ?_
        refine ks_callV (n := 1) (M' := mX8_addNumber) (c_st_addI (d := d + 1) (v := (op : Int) - 80) hO (by omega) (by omega) (by omega)) hO.ob cl_X8 rfl kx_1657 kx_1658 kx_1659 kx_25 kx_1660 (by decide +kernel) rfl (by decide) (Nat.le_of_ble_eq_true rfl) rfl dX7_perform_27 rfl (fun r1 T1 q1 => ?_)
        obtain ⟨rfl, u1, o1⟩ := q1
        have m1 := u1.1.at hM (by decide)
        refine ks_zret rfl (ks_bo_z _) dX7_perform_30 ?_
        refine ⟨?_, ?_⟩
        · unfold pfS
          rw [if_pos (by omega)]
          exact (mcR.yes u1 (by omega) (by omega) o1).L (by decide)
        · rw [pb_ (by omega)]
          exact m1

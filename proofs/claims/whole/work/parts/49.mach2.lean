/-! MACHINE: reckoning, branches, hashes -/
def tkO (op : Nat) : Nat := if op < 147 then 1 else if op = 165 then 3 else 2
abbrev okN (xs : List (List Nat)) (i : Nat) : Prop := i < xs.length ∧ (xs.getD i []).length ≤ 4
def rkS (op : Nat) (xs ys : List (List Nat)) : Option (List (List Nat) × List (List Nat)) :=
  if ∀ i, i < tkO op → okN xs i then
    (if tkO op = 1 then some (numI (rk1 op (numV (xs.getD 0 []))) :: xs.drop 1, ys)
    else if tkO op = 3 then some (flagL (decide (numV (xs.getD 1 []) ≤ numV (xs.getD 2 []) ∧ numV (xs.getD 2 []) < numV (xs.getD 0 []))) :: xs.drop 3, ys)
    else if op = 147 ∨ op = 148 ∨ op = 163 ∨ op = 164 then some (numI (rk2 op (numV (xs.getD 1 [])) (numV (xs.getD 0 []))) :: xs.drop 2, ys)
    else if op = 157 then (if rkH op (numV (xs.getD 1 [])) (numV (xs.getD 0 [])) then some (xs.drop 2, ys) else none)
    else some (flagL (rkH op (numV (xs.getD 1 [])) (numV (xs.getD 0 []))) :: xs.drop 2, ys))
  else none
theorem rk1_b {op : Nat} {a : Int} (h1 : -(2 ^ 31) < a) (h2 : a < 2 ^ 31) : (rk1 op a).natAbs < 256 ^ 5 := by
  unfold rk1
  (repeat' split) <;> omega
theorem rk2_b {op : Nat} {a b : Int} (h1 : -(2 ^ 31) < a) (h2 : a < 2 ^ 31) (h3 : -(2 ^ 31) < b) (h4 : b < 2 ^ 31) : (rk2 op a b).natAbs < 256 ^ 5 := by
  unfold rk2
  (repeat' split) <;> omega
set_option maxRecDepth 100000 in
set_option maxHeartbeats 2000000 in
theorem c_mc_reckon {l : Launch} {G : ks_G} {d : Nat} {S : ks_S} {inp cy pa pe pb ops opn cl : Nat} {kT kC sT sC : Int32} (hM : S.2.2 27 = some (mcO inp cy pa pe pb ops opn cl kT kC sT sC)) {xs ys : List (List Nat)} {u : Nat} (hO : st_ok S xs ys u) {op : Nat} (ho1 : 139 ≤ op) (ho2 : op ≤ 165) (hl : xs.length ≤ 1000) (hu : u + 8 ≤ 24096) : ks_P l G yX7_reckon mX7_reckon (d + 3) [.ref 27, .int (nI op)] S (mcR LSt S u 8 (rkS op xs ys)) := by
  have bd := hO.bd
  have hop : op < 256 := by omega
  have tail : ∀ t, t = tkO op → (∀ i, i < t → okN xs i) → ks_X l G mX7_reckon (d + 3) 51 [(0, .ref 27), (1, .int (nI op)), (2, .int (nI t))] [] S (mcR LSt S u 8 (rkS op xs ys)) := by
    intro t ht hk
    have htt : t = 1 ∨ t = 2 ∨ t = 3 := by rw [ht]; unfold tkO; split; omega; split <;> omega
    rcases htt with rfl | rfl | rfl
    · have hlt : op < 147 := by unfold tkO at ht; split at ht; assumption; split at ht <;> omega
      have k0 := hk 0 (by decide)
      have v0 := num4 hO k0.1 k0.2
      refine ks_aload_n dX7_reckon_51 rfl rfl ?_
      refine ks_getf (T := TX7) (kf := 3) kx_646 rfl in_X7 cl_X7 (by decide) hM rfl dX7_reckon_52 rfl ?_
      refine ks_iconst (x := nI 0) dX7_reckon_55 (by decide) rfl ?_
      refine ks_callV (n := 1) (M' := mX8_number) (c_st_number (d := d + 2) (c := 0) hO (gD k0.1) (by have := k0.2; omega)) hO.ob cl_X8 rfl kx_1600 kx_1601 kx_1602 kx_25 kx_1603 (by decide +kernel) rfl (by decide) (Nat.le_of_ble_eq_true rfl) rfl dX7_reckon_56 rfl (fun r1 T1 q1 => ?_)
      obtain ⟨rfl, hS1⟩ := q1
      obtain rfl := hS1.symm
      have q9 := k0.1
      refine ks_lstore_n dX7_reckon_59 (by decide) rfl ?_
      refine ks_sub [(3, _), (0, _), (1, _), (2, _)] rfl ?_
      refine ks_iload_n dX7_reckon_60 rfl rfl ?_
      refine ks_iconst (x := nI 1) dX7_reckon_61 (by decide) rfl ?_
      refine ks_icmp_leN (tgt := 76) (by decide) (by decide) dX7_reckon_62 (by decide) rfl (fun hh62 => ?_) (fun hh62 => ?_)
      · refine ks_lconst (x := lN 0) dX7_reckon_76 (by decide) rfl ?_
        refine ks_lstore dX7_reckon_77 (by decide) rfl ?_
        refine ks_sub [(5, _), (0, _), (1, _), (2, _), (3, _)] rfl ?_
        refine ks_iload_n dX7_reckon_79 rfl rfl ?_
        refine ks_iconst (x := nI 2) dX7_reckon_80 (by decide) rfl ?_
        refine ks_icmp_leN (tgt := 95) (by decide) (by decide) dX7_reckon_81 (by decide) rfl (fun hh81 => ?_) (fun hh81 => ?_)
        · refine ks_lconst (x := lN 0) dX7_reckon_95 (by decide) rfl ?_
          refine ks_lstore dX7_reckon_96 (by decide) rfl ?_
          refine ks_sub [(7, _), (0, _), (1, _), (2, _), (3, _), (5, _)] rfl ?_
          refine ks_aload_n dX7_reckon_98 rfl rfl ?_
          refine ks_getf (T := TX7) (kf := 3) kx_646 rfl in_X7 cl_X7 (by decide) hM rfl dX7_reckon_99 rfl ?_
          refine ks_iload_n dX7_reckon_102 rfl rfl ?_
          refine ks_callV (n := 1) (M' := mX8_drop) (c_st_drop (d := d + 2) (c := 1) hO (by omega)) hO.ob cl_X8 rfl kx_1575 kx_1576 kx_1577 kx_25 kx_1578 (by decide +kernel) rfl (by decide) (Nat.le_of_ble_eq_true rfl) rfl dX7_reckon_103 rfl (fun r2 T2 q2 => ?_)
          obtain ⟨rfl, u2, o2⟩ := q2
          have m2 := u2.1.at hM (by decide)
          have ld : (xs.drop 1).length = xs.length - 1 := List.length_drop
          refine ks_pop dX7_reckon_106 rfl rfl ?_
          refine ks_iload_n dX7_reckon_107 rfl rfl ?_
          refine ks_iconst (x := nI 1) dX7_reckon_108 (by decide) rfl ?_
          refine ks_icmp_neN (tgt := 125) (by decide) (by decide) dX7_reckon_109 (by decide) rfl (fun hh109 => ?_) (fun hh109 => ?_)
          · exact absurd hh109 (by decide)
          · refine ks_aload_n dX7_reckon_112 rfl rfl ?_
            refine ks_getf (T := TX7) (kf := 3) kx_646 rfl in_X7 cl_X7 (by decide) m2 rfl dX7_reckon_113 rfl ?_
            refine ks_iload_n dX7_reckon_116 rfl rfl ?_
            refine ks_lload_n dX7_reckon_117 rfl rfl ?_
            refine ks_callS (n := 2) (M' := mX7_ofOne) (c_mc_ofOne (d := d + 2) hop v0.1 v0.2) kx_1691 kx_1692 kx_24 kx_1693 (by decide +kernel) rfl (by decide) (Nat.le_of_ble_eq_true rfl) rfl dX7_reckon_118 rfl (fun r8 S8 h8 => ?_)
            obtain ⟨rfl, hS8⟩ := h8
            obtain rfl := hS8.symm
            have rb := rk1_b (op := op) v0.1 v0.2
            have rn := nsN_le rb
            refine ks_callV (n := 1) (M' := mX8_addNumber) (c_st_addI (d := d) (v := rk1 op (numV (xs.getD 0 []))) o2 (Nat.lt_of_lt_of_le rb (by decide)) (by omega) (by omega)) o2.ob cl_X8 rfl kx_1657 kx_1658 kx_1659 kx_25 kx_1660 (by decide +kernel) rfl (by decide) (Nat.le_of_ble_eq_true rfl) rfl dX7_reckon_121 rfl (fun r3 T3 q3 => ?_)
            obtain ⟨rfl, u3, o3⟩ := q3
            have m3 := u3.1.at m2 (by decide)
            refine ks_zret rfl (ks_bo_z _) dX7_reckon_124 ?_
            unfold rkS
            rw [← ht, if_pos hk]
            rw [if_pos rfl]
            exact mcR.yes (u2.trans u3 (by omega)) (by omega) (by omega) o3
        · exact absurd hh81 (by decide)
      · exact absurd hh62 (by decide)
    · have h2 : ¬ op < 147 ∧ ¬ op = 165 := by unfold tkO at ht; split at ht; omega; split at ht; omega; exact ⟨by assumption, by assumption⟩
      have k0 := hk 0 (by decide)
      have v0 := num4 hO k0.1 k0.2
      have k1 := hk 1 (by decide)
      have v1 := num4 hO k1.1 k1.2
      refine ks_aload_n dX7_reckon_51 rfl rfl ?_
      refine ks_getf (T := TX7) (kf := 3) kx_646 rfl in_X7 cl_X7 (by decide) hM rfl dX7_reckon_52 rfl ?_
      refine ks_iconst (x := nI 0) dX7_reckon_55 (by decide) rfl ?_
      refine ks_callV (n := 1) (M' := mX8_number) (c_st_number (d := d + 2) (c := 0) hO (gD k0.1) (by have := k0.2; omega)) hO.ob cl_X8 rfl kx_1600 kx_1601 kx_1602 kx_25 kx_1603 (by decide +kernel) rfl (by decide) (Nat.le_of_ble_eq_true rfl) rfl dX7_reckon_56 rfl (fun r1 T1 q1 => ?_)
      obtain ⟨rfl, hS1⟩ := q1
      obtain rfl := hS1.symm
      have q9 := k1.1
      refine ks_lstore_n dX7_reckon_59 (by decide) rfl ?_
      refine ks_sub [(3, _), (0, _), (1, _), (2, _)] rfl ?_
      refine ks_iload_n dX7_reckon_60 rfl rfl ?_
      refine ks_iconst (x := nI 1) dX7_reckon_61 (by decide) rfl ?_
      refine ks_icmp_leN (tgt := 76) (by decide) (by decide) dX7_reckon_62 (by decide) rfl (fun hh62 => ?_) (fun hh62 => ?_)
      · exact absurd hh62 (by decide)
      · refine ks_aload_n dX7_reckon_65 rfl rfl ?_
        refine ks_getf (T := TX7) (kf := 3) kx_646 rfl in_X7 cl_X7 (by decide) hM rfl dX7_reckon_66 rfl ?_
        refine ks_iconst (x := nI 1) dX7_reckon_69 (by decide) rfl ?_
        refine ks_callV (n := 1) (M' := mX8_number) (c_st_number (d := d + 2) (c := 1) hO (gD k1.1) (by have := k1.2; omega)) hO.ob cl_X8 rfl kx_1600 kx_1601 kx_1602 kx_25 kx_1603 (by decide +kernel) rfl (by decide) (Nat.le_of_ble_eq_true rfl) rfl dX7_reckon_70 rfl (fun r2 T2 q2 => ?_)
        obtain ⟨rfl, hS2⟩ := q2
        obtain rfl := hS2.symm
        refine ks_goto (tgt := 77) dX7_reckon_73 (by decide) ?_
        refine ks_lstore dX7_reckon_77 (by decide) rfl ?_
        refine ks_sub [(5, _), (0, _), (1, _), (2, _), (3, _)] rfl ?_
        refine ks_iload_n dX7_reckon_79 rfl rfl ?_
        refine ks_iconst (x := nI 2) dX7_reckon_80 (by decide) rfl ?_
        refine ks_icmp_leN (tgt := 95) (by decide) (by decide) dX7_reckon_81 (by decide) rfl (fun hh81 => ?_) (fun hh81 => ?_)
        · refine ks_lconst (x := lN 0) dX7_reckon_95 (by decide) rfl ?_
          refine ks_lstore dX7_reckon_96 (by decide) rfl ?_
          refine ks_sub [(7, _), (0, _), (1, _), (2, _), (3, _), (5, _)] rfl ?_
          refine ks_aload_n dX7_reckon_98 rfl rfl ?_
          refine ks_getf (T := TX7) (kf := 3) kx_646 rfl in_X7 cl_X7 (by decide) hM rfl dX7_reckon_99 rfl ?_
          refine ks_iload_n dX7_reckon_102 rfl rfl ?_
          refine ks_callV (n := 1) (M' := mX8_drop) (c_st_drop (d := d + 2) (c := 2) hO (by omega)) hO.ob cl_X8 rfl kx_1575 kx_1576 kx_1577 kx_25 kx_1578 (by decide +kernel) rfl (by decide) (Nat.le_of_ble_eq_true rfl) rfl dX7_reckon_103 rfl (fun r3 T3 q3 => ?_)
          obtain ⟨rfl, u3, o3⟩ := q3
          have m3 := u3.1.at hM (by decide)
          have ld : (xs.drop 2).length = xs.length - 2 := List.length_drop
          refine ks_pop dX7_reckon_106 rfl rfl ?_
          refine ks_iload_n dX7_reckon_107 rfl rfl ?_
          refine ks_iconst (x := nI 1) dX7_reckon_108 (by decide) rfl ?_
          refine ks_icmp_neN (tgt := 125) (by decide) (by decide) dX7_reckon_109 (by decide) rfl (fun hh109 => ?_) (fun hh109 => ?_)
          · refine ks_iload_n dX7_reckon_125 rfl rfl ?_
            refine ks_iconst (x := nI 3) dX7_reckon_126 (by decide) rfl ?_
            refine ks_icmp_neN (tgt := 158) (by decide) (by decide) dX7_reckon_127 (by decide) rfl (fun hh127 => ?_) (fun hh127 => ?_)
            · refine ks_iload_n dX7_reckon_158 rfl rfl ?_
              refine ks_sipush (x := nI 147) dX7_reckon_159 (by decide) rfl ?_
              refine ks_icmp_eqN (tgt := 186) (by omega) (by decide) dX7_reckon_162 (by decide) rfl (fun hh162 => ?_) (fun hh162 => ?_)
              · refine ks_aload_n dX7_reckon_186 rfl rfl ?_
                refine ks_getf (T := TX7) (kf := 3) kx_646 rfl in_X7 cl_X7 (by decide) m3 rfl dX7_reckon_187 rfl ?_
                refine ks_iload_n dX7_reckon_190 rfl rfl ?_
                refine ks_lload dX7_reckon_191 rfl rfl ?_
                refine ks_lload_n dX7_reckon_193 rfl rfl ?_
                refine ks_callS (n := 3) (M' := mX7_ofTwo) (c_mc_ofTwo (d := d + 2) hop v1.1 v1.2 v0.1 v0.2) kx_1694 kx_1695 kx_24 kx_1696 (by decide +kernel) rfl (by decide) (Nat.le_of_ble_eq_true rfl) rfl dX7_reckon_194 rfl (fun r8 S8 h8 => ?_)
                obtain ⟨rfl, hS8⟩ := h8
                obtain rfl := hS8.symm
                have rb := rk2_b (op := op) v1.1 v1.2 v0.1 v0.2
                have rn := nsN_le rb
                refine ks_callV (n := 1) (M' := mX8_addNumber) (c_st_addI (d := d) (v := rk2 op (numV (xs.getD 1 [])) (numV (xs.getD 0 []))) o3 (Nat.lt_of_lt_of_le rb (by decide)) (by omega) (by omega)) o3.ob cl_X8 rfl kx_1657 kx_1658 kx_1659 kx_25 kx_1660 (by decide +kernel) rfl (by decide) (Nat.le_of_ble_eq_true rfl) rfl dX7_reckon_197 rfl (fun r4 T4 q4 => ?_)
                obtain ⟨rfl, u4, o4⟩ := q4
                have m4 := u4.1.at m3 (by decide)
                refine ks_zret rfl (ks_bo_z _) dX7_reckon_200 ?_
                unfold rkS
                rw [← ht, if_pos hk]
                rw [if_neg (by decide), if_neg (by decide), if_pos (by omega)]
                exact mcR.yes (u3.trans u4 (by omega)) (by omega) (by omega) o4
              · refine ks_iload_n dX7_reckon_165 rfl rfl ?_
                refine ks_sipush (x := nI 148) dX7_reckon_166 (by decide) rfl ?_
                refine ks_icmp_eqN (tgt := 186) (by omega) (by decide) dX7_reckon_169 (by decide) rfl (fun hh169 => ?_) (fun hh169 => ?_)
                · refine ks_aload_n dX7_reckon_186 rfl rfl ?_
                  refine ks_getf (T := TX7) (kf := 3) kx_646 rfl in_X7 cl_X7 (by decide) m3 rfl dX7_reckon_187 rfl ?_
                  refine ks_iload_n dX7_reckon_190 rfl rfl ?_
                  refine ks_lload dX7_reckon_191 rfl rfl ?_
                  refine ks_lload_n dX7_reckon_193 rfl rfl ?_
                  refine ks_callS (n := 3) (M' := mX7_ofTwo) (c_mc_ofTwo (d := d + 2) hop v1.1 v1.2 v0.1 v0.2) kx_1694 kx_1695 kx_24 kx_1696 (by decide +kernel) rfl (by decide) (Nat.le_of_ble_eq_true rfl) rfl dX7_reckon_194 rfl (fun r8 S8 h8 => ?_)
                  obtain ⟨rfl, hS8⟩ := h8
                  obtain rfl := hS8.symm
                  have rb := rk2_b (op := op) v1.1 v1.2 v0.1 v0.2
                  have rn := nsN_le rb
                  refine ks_callV (n := 1) (M' := mX8_addNumber) (c_st_addI (d := d) (v := rk2 op (numV (xs.getD 1 [])) (numV (xs.getD 0 []))) o3 (Nat.lt_of_lt_of_le rb (by decide)) (by omega) (by omega)) o3.ob cl_X8 rfl kx_1657 kx_1658 kx_1659 kx_25 kx_1660 (by decide +kernel) rfl (by decide) (Nat.le_of_ble_eq_true rfl) rfl dX7_reckon_197 rfl (fun r4 T4 q4 => ?_)
                  obtain ⟨rfl, u4, o4⟩ := q4
                  have m4 := u4.1.at m3 (by decide)
                  refine ks_zret rfl (ks_bo_z _) dX7_reckon_200 ?_
                  unfold rkS
                  rw [← ht, if_pos hk]
                  rw [if_neg (by decide), if_neg (by decide), if_pos (by omega)]
                  exact mcR.yes (u3.trans u4 (by omega)) (by omega) (by omega) o4
                · refine ks_iload_n dX7_reckon_172 rfl rfl ?_
                  refine ks_sipush (x := nI 163) dX7_reckon_173 (by decide) rfl ?_
                  refine ks_icmp_eqN (tgt := 186) (by omega) (by decide) dX7_reckon_176 (by decide) rfl (fun hh176 => ?_) (fun hh176 => ?_)
                  · refine ks_aload_n dX7_reckon_186 rfl rfl ?_
                    refine ks_getf (T := TX7) (kf := 3) kx_646 rfl in_X7 cl_X7 (by decide) m3 rfl dX7_reckon_187 rfl ?_
                    refine ks_iload_n dX7_reckon_190 rfl rfl ?_
                    refine ks_lload dX7_reckon_191 rfl rfl ?_
                    refine ks_lload_n dX7_reckon_193 rfl rfl ?_
                    refine ks_callS (n := 3) (M' := mX7_ofTwo) (c_mc_ofTwo (d := d + 2) hop v1.1 v1.2 v0.1 v0.2) kx_1694 kx_1695 kx_24 kx_1696 (by decide +kernel) rfl (by decide) (Nat.le_of_ble_eq_true rfl) rfl dX7_reckon_194 rfl (fun r8 S8 h8 => ?_)
                    obtain ⟨rfl, hS8⟩ := h8
                    obtain rfl := hS8.symm
                    have rb := rk2_b (op := op) v1.1 v1.2 v0.1 v0.2
                    have rn := nsN_le rb
                    refine ks_callV (n := 1) (M' := mX8_addNumber) (c_st_addI (d := d) (v := rk2 op (numV (xs.getD 1 [])) (numV (xs.getD 0 []))) o3 (Nat.lt_of_lt_of_le rb (by decide)) (by omega) (by omega)) o3.ob cl_X8 rfl kx_1657 kx_1658 kx_1659 kx_25 kx_1660 (by decide +kernel) rfl (by decide) (Nat.le_of_ble_eq_true rfl) rfl dX7_reckon_197 rfl (fun r4 T4 q4 => ?_)
                    obtain ⟨rfl, u4, o4⟩ := q4
                    have m4 := u4.1.at m3 (by decide)
                    refine ks_zret rfl (ks_bo_z _) dX7_reckon_200 ?_
                    unfold rkS
                    rw [← ht, if_pos hk]
                    rw [if_neg (by decide), if_neg (by decide), if_pos (by omega)]
                    exact mcR.yes (u3.trans u4 (by omega)) (by omega) (by omega) o4
                  · refine ks_iload_n dX7_reckon_179 rfl rfl ?_
                    refine ks_sipush (x := nI 164) dX7_reckon_180 (by decide) rfl ?_
                    refine ks_icmp_neN (tgt := 201) (by omega) (by decide) dX7_reckon_183 (by decide) rfl (fun hh183 => ?_) (fun hh183 => ?_)
                    · refine ks_iload_n dX7_reckon_201 rfl rfl ?_
                      refine ks_lload dX7_reckon_202 rfl rfl ?_
                      refine ks_lload_n dX7_reckon_204 rfl rfl ?_
                      refine ks_callS (n := 3) (M' := mX7_holds) (c_mc_holds (d := d + 2) hop v1.1 v1.2 v0.1 v0.2) kx_1697 kx_1698 kx_24 kx_1699 (by decide +kernel) rfl (by decide) (Nat.le_of_ble_eq_true rfl) rfl dX7_reckon_205 rfl (fun r8 S8 h8 => ?_)
                      obtain ⟨rfl, hS8⟩ := h8
                      obtain rfl := hS8.symm
                      refine ks_istore dX7_reckon_208 (by decide) rfl ?_
                      refine ks_sub [(9, _), (0, _), (1, _), (2, _), (3, _), (5, _), (7, _)] rfl ?_
                      refine ks_iload_n dX7_reckon_210 rfl rfl ?_
                      refine ks_sipush (x := nI 157) dX7_reckon_211 (by decide) rfl ?_
                      refine ks_icmp_neN (tgt := 222) (by omega) (by decide) dX7_reckon_214 (by decide) rfl (fun hh214 => ?_) (fun hh214 => ?_)
                      · refine ks_aload_n dX7_reckon_222 rfl rfl ?_
                        refine ks_getf (T := TX7) (kf := 3) kx_646 rfl in_X7 cl_X7 (by decide) m3 rfl dX7_reckon_223 rfl ?_
                        refine ks_iload dX7_reckon_226 rfl rfl ?_
                        refine ks_callV (n := 1) (M' := mX8_addFlag) (c_st_addFlag (d := d) (b := (rkH op (numV (xs.getD 1 [])) (numV (xs.getD 0 [])))) o3 (by omega) (by omega)) o3.ob cl_X8 rfl kx_1643 kx_1644 kx_1645 kx_25 kx_1646 (by decide +kernel) rfl (by decide) (Nat.le_of_ble_eq_true rfl) rfl dX7_reckon_228 rfl (fun r4 T4 q4 => ?_)
                        obtain ⟨rfl, u4, o4⟩ := q4
                        have m4 := u4.1.at m3 (by decide)
                        refine ks_zret rfl (ks_bo_z _) dX7_reckon_231 ?_
                        unfold rkS
                        rw [← ht, if_pos hk, if_neg (by decide)]
                        rw [if_neg (by decide), if_neg (by omega), if_neg (by omega)]
                        have := flagL_len (rkH op (numV (xs.getD 1 [])) (numV (xs.getD 0 [])))
                        exact mcR.yes (u3.trans u4 (by omega)) (by omega) (by omega) o4
                      · refine ks_iload dX7_reckon_217 rfl rfl ?_
                        refine ks_goto (tgt := 231) dX7_reckon_219 (by decide) ?_
                        refine ks_zret rfl (ks_bo_z _) dX7_reckon_231 ?_
                        unfold rkS
                        rw [← ht, if_pos hk, if_neg (by decide), if_neg (by decide), if_neg (by omega), if_pos (by omega)]
                        cases hb9 : rkH op (numV (xs.getD 1 [])) (numV (xs.getD 0 []))
                        · rw [if_neg (by decide)]
                          exact mcR.no (u3).1 o3
                        · rw [if_pos rfl]
                          exact mcR.yes u3 (by omega) (by omega) o3
                    · refine ks_aload_n dX7_reckon_186 rfl rfl ?_
                      refine ks_getf (T := TX7) (kf := 3) kx_646 rfl in_X7 cl_X7 (by decide) m3 rfl dX7_reckon_187 rfl ?_
                      refine ks_iload_n dX7_reckon_190 rfl rfl ?_
                      refine ks_lload dX7_reckon_191 rfl rfl ?_
                      refine ks_lload_n dX7_reckon_193 rfl rfl ?_
                      refine ks_callS (n := 3) (M' := mX7_ofTwo) (c_mc_ofTwo (d := d + 2) hop v1.1 v1.2 v0.1 v0.2) kx_1694 kx_1695 kx_24 kx_1696 (by decide +kernel) rfl (by decide) (Nat.le_of_ble_eq_true rfl) rfl dX7_reckon_194 rfl (fun r8 S8 h8 => ?_)
                      obtain ⟨rfl, hS8⟩ := h8
                      obtain rfl := hS8.symm
                      have rb := rk2_b (op := op) v1.1 v1.2 v0.1 v0.2
                      have rn := nsN_le rb
                      refine ks_callV (n := 1) (M' := mX8_addNumber) (c_st_addI (d := d) (v := rk2 op (numV (xs.getD 1 [])) (numV (xs.getD 0 []))) o3 (Nat.lt_of_lt_of_le rb (by decide)) (by omega) (by omega)) o3.ob cl_X8 rfl kx_1657 kx_1658 kx_1659 kx_25 kx_1660 (by decide +kernel) rfl (by decide) (Nat.le_of_ble_eq_true rfl) rfl dX7_reckon_197 rfl (fun r4 T4 q4 => ?_)
                      obtain ⟨rfl, u4, o4⟩ := q4
                      have m4 := u4.1.at m3 (by decide)
                      refine ks_zret rfl (ks_bo_z _) dX7_reckon_200 ?_
                      unfold rkS
                      rw [← ht, if_pos hk]
                      rw [if_neg (by decide), if_neg (by decide), if_pos (by omega)]
                      exact mcR.yes (u3.trans u4 (by omega)) (by omega) (by omega) o4
            · exact absurd hh127 (by decide)
          · exact absurd hh109 (by decide)
        · exact absurd hh81 (by decide)
    · have h165 : op = 165 := by unfold tkO at ht; split at ht; omega; split at ht; assumption; omega
      have k0 := hk 0 (by decide)
      have v0 := num4 hO k0.1 k0.2
      have k1 := hk 1 (by decide)
      have v1 := num4 hO k1.1 k1.2
      have k2 := hk 2 (by decide)
      have v2 := num4 hO k2.1 k2.2
      refine ks_aload_n dX7_reckon_51 rfl rfl ?_
      refine ks_getf (T := TX7) (kf := 3) kx_646 rfl in_X7 cl_X7 (by decide) hM rfl dX7_reckon_52 rfl ?_
      refine ks_iconst (x := nI 0) dX7_reckon_55 (by decide) rfl ?_
      refine ks_callV (n := 1) (M' := mX8_number) (c_st_number (d := d + 2) (c := 0) hO (gD k0.1) (by have := k0.2; omega)) hO.ob cl_X8 rfl kx_1600 kx_1601 kx_1602 kx_25 kx_1603 (by decide +kernel) rfl (by decide) (Nat.le_of_ble_eq_true rfl) rfl dX7_reckon_56 rfl (fun r1 T1 q1 => ?_)
      obtain ⟨rfl, hS1⟩ := q1
      obtain rfl := hS1.symm
      have q9 := k2.1
      refine ks_lstore_n dX7_reckon_59 (by decide) rfl ?_
      refine ks_sub [(3, _), (0, _), (1, _), (2, _)] rfl ?_
      refine ks_iload_n dX7_reckon_60 rfl rfl ?_
      refine ks_iconst (x := nI 1) dX7_reckon_61 (by decide) rfl ?_
      refine ks_icmp_leN (tgt := 76) (by decide) (by decide) dX7_reckon_62 (by decide) rfl (fun hh62 => ?_) (fun hh62 => ?_)
      · exact absurd hh62 (by decide)
      · refine ks_aload_n dX7_reckon_65 rfl rfl ?_
        refine ks_getf (T := TX7) (kf := 3) kx_646 rfl in_X7 cl_X7 (by decide) hM rfl dX7_reckon_66 rfl ?_
        refine ks_iconst (x := nI 1) dX7_reckon_69 (by decide) rfl ?_
        refine ks_callV (n := 1) (M' := mX8_number) (c_st_number (d := d + 2) (c := 1) hO (gD k1.1) (by have := k1.2; omega)) hO.ob cl_X8 rfl kx_1600 kx_1601 kx_1602 kx_25 kx_1603 (by decide +kernel) rfl (by decide) (Nat.le_of_ble_eq_true rfl) rfl dX7_reckon_70 rfl (fun r2 T2 q2 => ?_)
        obtain ⟨rfl, hS2⟩ := q2
        obtain rfl := hS2.symm
        refine ks_goto (tgt := 77) dX7_reckon_73 (by decide) ?_
        refine ks_lstore dX7_reckon_77 (by decide) rfl ?_
        refine ks_sub [(5, _), (0, _), (1, _), (2, _), (3, _)] rfl ?_
        refine ks_iload_n dX7_reckon_79 rfl rfl ?_
        refine ks_iconst (x := nI 2) dX7_reckon_80 (by decide) rfl ?_
        refine ks_icmp_leN (tgt := 95) (by decide) (by decide) dX7_reckon_81 (by decide) rfl (fun hh81 => ?_) (fun hh81 => ?_)
        · exact absurd hh81 (by decide)
        · refine ks_aload_n dX7_reckon_84 rfl rfl ?_
          refine ks_getf (T := TX7) (kf := 3) kx_646 rfl in_X7 cl_X7 (by decide) hM rfl dX7_reckon_85 rfl ?_
          refine ks_iconst (x := nI 2) dX7_reckon_88 (by decide) rfl ?_
          refine ks_callV (n := 1) (M' := mX8_number) (c_st_number (d := d + 2) (c := 2) hO (gD k2.1) (by have := k2.2; omega)) hO.ob cl_X8 rfl kx_1600 kx_1601 kx_1602 kx_25 kx_1603 (by decide +kernel) rfl (by decide) (Nat.le_of_ble_eq_true rfl) rfl dX7_reckon_89 rfl (fun r3 T3 q3 => ?_)
          obtain ⟨rfl, hS3⟩ := q3
          obtain rfl := hS3.symm
          refine ks_goto (tgt := 96) dX7_reckon_92 (by decide) ?_
          refine ks_lstore dX7_reckon_96 (by decide) rfl ?_
          refine ks_sub [(7, _), (0, _), (1, _), (2, _), (3, _), (5, _)] rfl ?_
          refine ks_aload_n dX7_reckon_98 rfl rfl ?_
          refine ks_getf (T := TX7) (kf := 3) kx_646 rfl in_X7 cl_X7 (by decide) hM rfl dX7_reckon_99 rfl ?_
          refine ks_iload_n dX7_reckon_102 rfl rfl ?_
          refine ks_callV (n := 1) (M' := mX8_drop) (c_st_drop (d := d + 2) (c := 3) hO (by omega)) hO.ob cl_X8 rfl kx_1575 kx_1576 kx_1577 kx_25 kx_1578 (by decide +kernel) rfl (by decide) (Nat.le_of_ble_eq_true rfl) rfl dX7_reckon_103 rfl (fun r4 T4 q4 => ?_)
          obtain ⟨rfl, u4, o4⟩ := q4
          have m4 := u4.1.at hM (by decide)
          have ld : (xs.drop 3).length = xs.length - 3 := List.length_drop
          refine ks_pop dX7_reckon_106 rfl rfl ?_
          refine ks_iload_n dX7_reckon_107 rfl rfl ?_
          refine ks_iconst (x := nI 1) dX7_reckon_108 (by decide) rfl ?_
          refine ks_icmp_neN (tgt := 125) (by decide) (by decide) dX7_reckon_109 (by decide) rfl (fun hh109 => ?_) (fun hh109 => ?_)
          · refine ks_iload_n dX7_reckon_125 rfl rfl ?_
            refine ks_iconst (x := nI 3) dX7_reckon_126 (by decide) rfl ?_
            refine ks_icmp_neN (tgt := 158) (by decide) (by decide) dX7_reckon_127 (by decide) rfl (fun hh127 => ?_) (fun hh127 => ?_)
            · exact absurd hh127 (by decide)
            · refine ks_aload_n dX7_reckon_130 rfl rfl ?_
              refine ks_getf (T := TX7) (kf := 3) kx_646 rfl in_X7 cl_X7 (by decide) m4 rfl dX7_reckon_131 rfl ?_
              refine ks_lload dX7_reckon_134 rfl rfl ?_
              refine ks_lload dX7_reckon_136 rfl rfl ?_
              refine ks_lif_gt (tgt := 153) dX7_reckon_138 rfl dX7_reckon_139 (by decide) rfl (fun hh138 => ?_) (fun hh138 => ?_)
              · refine ks_iconst (x := nI 0) dX7_reckon_153 (by decide) rfl ?_
                have fb : decide (numV (xs.getD 1 []) ≤ numV (xs.getD 2 []) ∧ numV (xs.getD 2 []) < numV (xs.getD 0 [])) = false := by
                  simp only [iL_lt (a := numV (xs.getD 2 [])) (b := numV (xs.getD 1 [])) (by omega) (by omega) (by omega) (by omega), iL_le (a := numV (xs.getD 1 [])) (b := numV (xs.getD 2 [])) (by omega) (by omega) (by omega) (by omega), iL_lt (a := numV (xs.getD 2 [])) (b := numV (xs.getD 0 [])) (by omega) (by omega) (by omega) (by omega), iL_le (a := numV (xs.getD 0 [])) (b := numV (xs.getD 2 [])) (by omega) (by omega) (by omega) (by omega)] at *
                  first | exact decide_eq_true (by omega) | exact decide_eq_false (by omega)
                refine ks_callV (n := 1) (M' := mX8_addFlag) (c_st_addFlag (d := d) (b := false) o4 (by omega) (by omega)) o4.ob cl_X8 rfl kx_1643 kx_1644 kx_1645 kx_25 kx_1646 (by decide +kernel) rfl (by decide) (Nat.le_of_ble_eq_true rfl) rfl dX7_reckon_154 rfl (fun r5 T5 q5 => ?_)
                obtain ⟨rfl, u5, o5⟩ := q5
                have m5 := u5.1.at m4 (by decide)
                refine ks_zret rfl (ks_bo_z _) dX7_reckon_157 ?_
                unfold rkS
                rw [← ht, if_pos hk, if_neg (by decide)]
                rw [if_pos rfl, fb]
                have := flagL_len false
                exact mcR.yes (u4.trans u5 (by omega)) (by omega) (by omega) o5
              · refine ks_lload dX7_reckon_142 rfl rfl ?_
                refine ks_lload_n dX7_reckon_144 rfl rfl ?_
                refine ks_lif_ge (tgt := 153) dX7_reckon_145 rfl dX7_reckon_146 (by decide) rfl (fun hh145 => ?_) (fun hh145 => ?_)
                · refine ks_iconst (x := nI 0) dX7_reckon_153 (by decide) rfl ?_
                  have fb : decide (numV (xs.getD 1 []) ≤ numV (xs.getD 2 []) ∧ numV (xs.getD 2 []) < numV (xs.getD 0 [])) = false := by
                    simp only [iL_lt (a := numV (xs.getD 2 [])) (b := numV (xs.getD 1 [])) (by omega) (by omega) (by omega) (by omega), iL_le (a := numV (xs.getD 1 [])) (b := numV (xs.getD 2 [])) (by omega) (by omega) (by omega) (by omega), iL_lt (a := numV (xs.getD 2 [])) (b := numV (xs.getD 0 [])) (by omega) (by omega) (by omega) (by omega), iL_le (a := numV (xs.getD 0 [])) (b := numV (xs.getD 2 [])) (by omega) (by omega) (by omega) (by omega)] at *
                    first | exact decide_eq_true (by omega) | exact decide_eq_false (by omega)
                  refine ks_callV (n := 1) (M' := mX8_addFlag) (c_st_addFlag (d := d) (b := false) o4 (by omega) (by omega)) o4.ob cl_X8 rfl kx_1643 kx_1644 kx_1645 kx_25 kx_1646 (by decide +kernel) rfl (by decide) (Nat.le_of_ble_eq_true rfl) rfl dX7_reckon_154 rfl (fun r5 T5 q5 => ?_)
                  obtain ⟨rfl, u5, o5⟩ := q5
                  have m5 := u5.1.at m4 (by decide)
                  refine ks_zret rfl (ks_bo_z _) dX7_reckon_157 ?_
                  unfold rkS
                  rw [← ht, if_pos hk, if_neg (by decide)]
                  rw [if_pos rfl, fb]
                  have := flagL_len false
                  exact mcR.yes (u4.trans u5 (by omega)) (by omega) (by omega) o5
                · refine ks_iconst (x := nI 1) dX7_reckon_149 (by decide) rfl ?_
                  refine ks_goto (tgt := 154) dX7_reckon_150 (by decide) ?_
                  have fb : decide (numV (xs.getD 1 []) ≤ numV (xs.getD 2 []) ∧ numV (xs.getD 2 []) < numV (xs.getD 0 [])) = true := by
                    simp only [iL_lt (a := numV (xs.getD 2 [])) (b := numV (xs.getD 1 [])) (by omega) (by omega) (by omega) (by omega), iL_le (a := numV (xs.getD 1 [])) (b := numV (xs.getD 2 [])) (by omega) (by omega) (by omega) (by omega), iL_lt (a := numV (xs.getD 2 [])) (b := numV (xs.getD 0 [])) (by omega) (by omega) (by omega) (by omega), iL_le (a := numV (xs.getD 0 [])) (b := numV (xs.getD 2 [])) (by omega) (by omega) (by omega) (by omega)] at *
                    first | exact decide_eq_true (by omega) | exact decide_eq_false (by omega)
                  refine ks_callV (n := 1) (M' := mX8_addFlag) (c_st_addFlag (d := d) (b := true) o4 (by omega) (by omega)) o4.ob cl_X8 rfl kx_1643 kx_1644 kx_1645 kx_25 kx_1646 (by decide +kernel) rfl (by decide) (Nat.le_of_ble_eq_true rfl) rfl dX7_reckon_154 rfl (fun r5 T5 q5 => ?_)
                  obtain ⟨rfl, u5, o5⟩ := q5
                  have m5 := u5.1.at m4 (by decide)
                  refine ks_zret rfl (ks_bo_z _) dX7_reckon_157 ?_
                  unfold rkS
                  rw [← ht, if_pos hk, if_neg (by decide)]
                  rw [if_pos rfl, fb]
                  have := flagL_len true
                  exact mcR.yes (u4.trans u5 (by omega)) (by omega) (by omega) o5
          · exact absurd hh109 (by decide)
  have loop : ∀ t, t = tkO op → ∀ c i, i + c = t → (∀ j, j < i → okN xs j) → ks_X l G mX7_reckon (d + 3) 26 [(0, .ref 27), (1, .int (nI op)), (2, .int (nI t)), (3, .int (nI i))] [] S (mcR LSt S u 8 (rkS op xs ys)) := by
    intro t ht c
    have ht3 : t ≤ 3 := by rw [ht]; unfold tkO; split; omega; split <;> omega
    induction c with
    | zero =>
      intro i hi hj
      refine ks_iload_n dX7_reckon_26 rfl rfl ?_
      refine ks_iload_n dX7_reckon_27 rfl rfl ?_
      refine ks_icmp_geN (tgt := 51) (by omega) (by omega) dX7_reckon_28 (by decide) rfl (fun h1 => ?_) (fun h1 => ?_)
      · refine ks_sub [(0, _), (1, _), (2, _)] rfl ?_
        obtain rfl : i = t := by omega
        exact ks_sub [(0, _), (1, _), (2, _)] rfl (tail i ht hj)
      · omega
    | succ c ih =>
      intro i hi hj
      refine ks_iload_n dX7_reckon_26 rfl rfl ?_
      refine ks_iload_n dX7_reckon_27 rfl rfl ?_
      refine ks_icmp_geN (tgt := 51) (by omega) (by omega) dX7_reckon_28 (by decide) rfl (fun h1 => ?_) (fun h1 => ?_)
      · omega
      · refine ks_aload_n dX7_reckon_31 rfl rfl ?_
        refine ks_getf (T := TX7) (kf := 3) kx_646 rfl in_X7 cl_X7 (by decide) hM rfl dX7_reckon_32 rfl ?_
        refine ks_iload_n dX7_reckon_35 rfl rfl ?_
        refine ks_iconst (x := nI 4) dX7_reckon_36 (by decide) rfl ?_
        refine ks_callV (n := 2) (M' := mX8_hasNumber) (c_st_hasNumber (d := d + 2) (c := i) (mo := 4) hO (by omega) (by decide)) hO.ob cl_X8 rfl kx_1596 kx_1597 kx_1598 kx_25 kx_1599 (by decide +kernel) rfl (by decide) (Nat.le_of_ble_eq_true rfl) rfl dX7_reckon_37 rfl (fun r1 T1 q1 => ?_)
        obtain ⟨b1, rfl, hS1, hb⟩ := q1
        obtain rfl := hS1.symm
        rw [has_iff] at hb
        refine ks_if_neZ (tgt := 45) dX7_reckon_40 (by decide) rfl (fun h2 => ?_) (fun h2 => ?_)
        · refine ks_incN (c := 1) (e := i + 1) dX7_reckon_45 rfl (by decide) rfl (by decide) rfl ?_
          refine ks_sub [(3, _), (0, _), (1, _), (2, _)] rfl ?_
          refine ks_goto (tgt := 26) dX7_reckon_48 (by decide) ?_
          exact ks_sub [(0, _), (1, _), (2, _), (3, _)] rfl (ih (i + 1) (by omega) (fun j hj2 => by
            rcases Nat.lt_succ_iff_lt_or_eq.mp hj2 with h | h
            · exact hj j h
            · rw [h]; exact hb.mp h2))
        · refine ks_iconst (x := nI 0) dX7_reckon_43 (by decide) rfl ?_
          refine ks_zret rfl rfl dX7_reckon_44 ?_
          unfold rkS
          rw [if_neg (fun h => by have := hb.mpr (h i (by omega)); rw [h2] at this; cases this)]
          exact mcR.no (ks_up.rf _ _) hO
  refine ks_of (by decide) rfl rfl (Nat.le_of_ble_eq_true rfl) ?_
  show ks_X l G mX7_reckon (d + 3) 0 [(0, .ref 27), (1, .int (nI op))] [] S _
  refine ks_iload_n dX7_reckon_0 rfl rfl ?_
  refine ks_sipush (x := nI 147) dX7_reckon_1 (by decide) rfl ?_
  refine ks_icmp_geN (tgt := 11) (by omega) (by decide) dX7_reckon_4 (by decide) rfl (fun hc4 => ?_) (fun hc4 => ?_)
  · refine ks_iload_n dX7_reckon_11 rfl rfl ?_
    refine ks_sipush (x := nI 165) dX7_reckon_12 (by decide) rfl ?_
    refine ks_icmp_neN (tgt := 22) (by omega) (by decide) dX7_reckon_15 (by decide) rfl (fun hc15 => ?_) (fun hc15 => ?_)
    · refine ks_iconst (x := nI 2) dX7_reckon_22 (by decide) rfl ?_
      refine ks_istore_n dX7_reckon_23 (by decide) rfl ?_
      refine ks_sub [(2, _), (0, _), (1, _)] rfl ?_
      refine ks_iconst (x := nI 0) dX7_reckon_24 (by decide) rfl ?_
      refine ks_istore_n dX7_reckon_25 (by decide) rfl ?_
      refine ks_sub [(3, _), (0, _), (1, _), (2, _)] rfl ?_
      exact ks_sub [(0, _), (1, _), (2, _), (3, _)] rfl (loop 2 (by unfold tkO; first | rw [if_pos (by omega)] | rw [if_neg (by omega), if_pos (by omega)] | rw [if_neg (by omega), if_neg (by omega)]) 2 0 (by decide) (fun j hj => absurd hj (Nat.not_lt_zero j)))
    · refine ks_iconst (x := nI 3) dX7_reckon_18 (by decide) rfl ?_
      refine ks_goto (tgt := 23) dX7_reckon_19 (by decide) ?_
      refine ks_istore_n dX7_reckon_23 (by decide) rfl ?_
      refine ks_sub [(2, _), (0, _), (1, _)] rfl ?_
      refine ks_iconst (x := nI 0) dX7_reckon_24 (by decide) rfl ?_
      refine ks_istore_n dX7_reckon_25 (by decide) rfl ?_
      refine ks_sub [(3, _), (0, _), (1, _), (2, _)] rfl ?_
      exact ks_sub [(0, _), (1, _), (2, _), (3, _)] rfl (loop 3 (by unfold tkO; first | rw [if_pos (by omega)] | rw [if_neg (by omega), if_pos (by omega)] | rw [if_neg (by omega), if_neg (by omega)]) 3 0 (by decide) (fun j hj => absurd hj (Nat.not_lt_zero j)))
  · refine ks_iconst (x := nI 1) dX7_reckon_7 (by decide) rfl ?_
    refine ks_goto (tgt := 23) dX7_reckon_8 (by decide) ?_
    refine ks_istore_n dX7_reckon_23 (by decide) rfl ?_
    refine ks_sub [(2, _), (0, _), (1, _)] rfl ?_
    refine ks_iconst (x := nI 0) dX7_reckon_24 (by decide) rfl ?_
    refine ks_istore_n dX7_reckon_25 (by decide) rfl ?_
    refine ks_sub [(3, _), (0, _), (1, _), (2, _)] rfl ?_
    exact ks_sub [(0, _), (1, _), (2, _), (3, _)] rfl (loop 1 (by unfold tkO; first | rw [if_pos (by omega)] | rw [if_neg (by omega), if_pos (by omega)] | rw [if_neg (by omega), if_neg (by omega)]) 1 0 (by decide) (fun j hj => absurd hj (Nat.not_lt_zero j)))
/-- the conditions, the innermost one first -/
def csE (dn : Nat → Bool) : Nat → List Bool
  | 0 => []
  | n + 1 => dn n :: csE dn n
theorem csE_len (dn : Nat → Bool) : ∀ n, (csE dn n).length = n
  | 0 => rfl
  | n + 1 => by rw [csE, List.length_cons, csE_len]
theorem csE_congr {f g : Nat → Bool} : ∀ {n : Nat}, (∀ i, i < n → f i = g i) → csE f n = csE g n
  | 0, _ => rfl
  | n + 1, h => by rw [csE, csE, h n (Nat.lt_succ_self n), csE_congr (fun i hi => h i (Nat.lt_succ_of_lt hi))]
def clN : List Bool → Nat
  | [] => 0
  | b :: r => clN r + (if b then 0 else 1)
def cdX (S : ks_S) (cs : List Bool) : Prop := ∃ dn, S.2.2 36 = some (kZ 202 dn) ∧ cs = csE dn cs.length
theorem cdX.up {S S1 : ks_S} {cs : List Bool} {L : List Nat} (h : cdX S cs) (hu : ks_up S S1 L) (hn : 36 ∉ L) : cdX S1 cs := by
  obtain ⟨dn, h1, h2⟩ := h
  exact ⟨dn, hu.at h1 hn, h2⟩
theorem clN_le : ∀ cs : List Bool, clN cs ≤ cs.length
  | [] => Nat.le_refl 0
  | b :: r => by
    have := clN_le r
    rw [clN, List.length_cons]
    split <;> omega
def brS (op : Nat) (xs : List (List Nat)) (cs : List Bool) : Option (List (List Nat) × List Bool) :=
  if op = 99 ∨ op = 100 then
    (if clN cs = 0 then (if xs = [] then none else some (xs.drop 1, (topTr xs == decide (op = 99)) :: cs)) else some (xs, false :: cs))
  else (match cs with
    | [] => none
    | b :: r => if op = 104 then some (xs, r) else some (xs, (!b) :: r))
abbrev LBr : List Nat := [27, 36, 29, 30, 31, 32, 33, 34, 35]
def brR (S : ks_S) (inp cy pa pe pb ops : Nat) (kT kC sT sC : Int32) (ys : List (List Nat)) (u : Nat) (r : Option (List (List Nat) × List Bool)) (z : Option Value) (S1 : ks_S) : Prop := match r with
  | none => z = some (.int (ks_bo false)) ∧ S1 = S
  | some q => z = some (.int (ks_bo true)) ∧ stV LBr S S1 u ∧ st_ok S1 q.1 ys u ∧ cdX S1 q.2 ∧ S1.2.2 27 = some (mcO inp cy pa pe pb ops q.2.length (clN q.2) kT kC sT sC)
set_option maxRecDepth 100000 in
set_option maxHeartbeats 2000000 in
theorem c_mc_branch {l : Launch} {G : ks_G} {d : Nat} {S : ks_S} {inp cy pa pe pb ops : Nat} {cs : List Bool} {kT kC sT sC : Int32} (hM : S.2.2 27 = some (mcO inp cy pa pe pb ops cs.length (clN cs) kT kC sT sC)) {xs ys : List (List Nat)} {u : Nat} (hO : st_ok S xs ys u) {op : Nat} (hC : cdX S cs) (hcl : cs.length < 202) (hop : op = 99 ∨ op = 100 ∨ op = 103 ∨ op = 104) : ks_P l G yX7_branch mX7_branch (d + 1) [.ref 27, .int (nI op)] S (brR S inp cy pa pe pb ops kT kC sT sC ys u (brS op xs cs)) := by
  obtain ⟨dn, h36, hcs⟩ := id hC
  have bd := hO.bd
  have hc1 := clN_le cs
  have hop2 : op < 256 := by omega
  refine ks_of (by decide) rfl rfl (Nat.le_of_ble_eq_true rfl) ?_
  show ks_X l G mX7_branch (d + 1) 0 [(0, .ref 27), (1, .int (nI op))] [] S _
  have J : ∀ (b : Bool) (xs2 : List (List Nat)) (S1 : ks_S), stV LBr S S1 u → st_ok S1 xs2 ys u → S1.2.2 27 = some (mcO inp cy pa pe pb ops cs.length (clN cs) kT kC sT sC) → S1.2.2 36 = some (kZ 202 (va_up dn cs.length b)) → brS op xs cs = some (xs2, b :: cs) → ks_X l G mX7_branch (d + 1) 101 [(0, .ref 27), (1, .int (nI op))] [] S1 (brR S inp cy pa pe pb ops kT kC sT sC ys u (brS op xs cs)) := by
    intro b xs2 S1 hV1 hO1 hM1 h361 heq
    rw [heq]
    refine ks_aload_n dX7_branch_101 rfl rfl ?_
    refine ks_dup dX7_branch_102 rfl rfl ?_
    refine ks_getf (T := TX7) (kf := 15) kx_658 rfl in_X7 cl_X7 (by decide) hM1 rfl dX7_branch_103 rfl ?_
    refine ks_aload_n dX7_branch_106 rfl rfl ?_
    refine ks_getf (T := TX7) (kf := 4) kx_647 rfl in_X7 cl_X7 (by decide) hM1 rfl dX7_branch_107 rfl ?_
    refine ks_aload_n dX7_branch_110 rfl rfl ?_
    refine ks_getf (T := TX7) (kf := 14) kx_657 rfl in_X7 cl_X7 (by decide) hM1 rfl dX7_branch_111 rfl ?_
    refine ks_zaldN (i := cs.length) h361 (by omega) (by decide) dX7_branch_114 rfl ?_
    refine ks_ti (congrArg ks_bo (va_up_self dn cs.length b)) ?_
    refine ks_if_eqZ (tgt := 122) dX7_branch_115 (by decide) rfl (fun hb => ?_) (fun hb => ?_)
    · refine ks_iconst (x := nI 1) dX7_branch_122 (by decide) rfl ?_
      refine ks_addN dX7_branch_123 rfl ?_
      refine ks_putf (T := TX7) (kf := 15) kx_658 rfl in_X7 tyX7_ok nmX7 cl_X7 (by decide) hM1 (Nat.le_of_ble_eq_true rfl) rfl rfl rfl rfl dX7_branch_124 rfl ?_
      refine ks_aload_n dX7_branch_127 rfl rfl ?_
      refine ks_dup dX7_branch_128 rfl rfl ?_
      refine ks_getf (T := TX7) (kf := 14) kx_657 rfl in_X7 cl_X7 (by decide) (ks_set_same _ _ _) rfl dX7_branch_129 rfl ?_
      refine ks_iconst (x := nI 1) dX7_branch_132 (by decide) rfl ?_
      refine ks_addN dX7_branch_133 rfl ?_
      refine ks_putf (T := TX7) (kf := 14) kx_657 rfl in_X7 tyX7_ok nmX7 cl_X7 (by decide) (ks_set_same _ _ _) (Nat.le_of_ble_eq_true rfl) rfl rfl rfl rfl dX7_branch_134 rfl ?_
      refine ks_iconst (x := nI 1) dX7_branch_137 (by decide) rfl ?_
      refine ks_zret rfl rfl dX7_branch_138 ?_
      refine ⟨rfl, ?_, ?_, ?_, ?_⟩
      · exact (hV1.trans (stV.of ((ks_up_set _ _ (L := [27]) (by decide)).trans (ks_up_set _ _ (by decide))) (by decide) (by decide)) (Nat.le_refl _))
      · exact (hO1.up ((ks_up_set _ _ (L := [27]) (by decide)).trans (ks_up_set _ _ (by decide))) (by decide))
      · refine ⟨va_up dn cs.length b, ((ks_set_ne _ _ (by decide)).trans ((ks_set_ne _ _ (by decide)).trans h361)), ?_⟩
        show b :: cs = csE (va_up dn cs.length b) (cs.length + 1)
        rw [csE, va_up_self]
        congr 1
        rw [csE_congr (g := dn) (fun i hi => va_up_ne _ _ (by omega))]
        exact hcs
      · subst hb
        exact (ks_set_same _ _ _)
    · refine ks_iconst (x := nI 0) dX7_branch_118 (by decide) rfl ?_
      refine ks_goto (tgt := 123) dX7_branch_119 (by decide) ?_
      refine ks_addN dX7_branch_123 rfl ?_
      refine ks_putf (T := TX7) (kf := 15) kx_658 rfl in_X7 tyX7_ok nmX7 cl_X7 (by decide) hM1 (Nat.le_of_ble_eq_true rfl) rfl rfl rfl rfl dX7_branch_124 rfl ?_
      refine ks_aload_n dX7_branch_127 rfl rfl ?_
      refine ks_dup dX7_branch_128 rfl rfl ?_
      refine ks_getf (T := TX7) (kf := 14) kx_657 rfl in_X7 cl_X7 (by decide) (ks_set_same _ _ _) rfl dX7_branch_129 rfl ?_
      refine ks_iconst (x := nI 1) dX7_branch_132 (by decide) rfl ?_
      refine ks_addN dX7_branch_133 rfl ?_
      refine ks_putf (T := TX7) (kf := 14) kx_657 rfl in_X7 tyX7_ok nmX7 cl_X7 (by decide) (ks_set_same _ _ _) (Nat.le_of_ble_eq_true rfl) rfl rfl rfl rfl dX7_branch_134 rfl ?_
      refine ks_iconst (x := nI 1) dX7_branch_137 (by decide) rfl ?_
      refine ks_zret rfl rfl dX7_branch_138 ?_
      refine ⟨rfl, ?_, ?_, ?_, ?_⟩
      · exact (hV1.trans (stV.of ((ks_up_set _ _ (L := [27]) (by decide)).trans (ks_up_set _ _ (by decide))) (by decide) (by decide)) (Nat.le_refl _))
      · exact (hO1.up ((ks_up_set _ _ (L := [27]) (by decide)).trans (ks_up_set _ _ (by decide))) (by decide))
      · refine ⟨va_up dn cs.length b, ((ks_set_ne _ _ (by decide)).trans ((ks_set_ne _ _ (by decide)).trans h361)), ?_⟩
        show b :: cs = csE (va_up dn cs.length b) (cs.length + 1)
        rw [csE, va_up_self]
        congr 1
        rw [csE_congr (g := dn) (fun i hi => va_up_ne _ _ (by omega))]
        exact hcs
      · subst hb
        exact (ks_set_same _ _ _)
  refine ks_iload_n dX7_branch_0 rfl rfl ?_
  refine ks_bipush (x := nI 99) dX7_branch_1 (by decide) rfl ?_
  refine ks_icmp_eqN (tgt := 12) (by omega) (by decide) dX7_branch_3 (by decide) rfl (fun hc3 => ?_) (fun hc3 => ?_)
  · refine ks_aload_n dX7_branch_12 rfl rfl ?_
    refine ks_getf (T := TX7) (kf := 15) kx_658 rfl in_X7 cl_X7 (by decide) hM rfl dX7_branch_13 rfl ?_
    refine ks_if_neN (tgt := 29) (by omega) dX7_branch_16 (by decide) rfl (fun hc16 => ?_) (fun hc16 => ?_)
    · refine ks_aload_n dX7_branch_29 rfl rfl ?_
      refine ks_getf (T := TX7) (kf := 14) kx_657 rfl in_X7 cl_X7 (by decide) hM rfl dX7_branch_30 rfl ?_
      refine ks_aload_n dX7_branch_33 rfl rfl ?_
      refine ks_getf (T := TX7) (kf := 4) kx_647 rfl in_X7 cl_X7 (by decide) hM rfl dX7_branch_34 rfl ?_
      refine ks_alenT (by decide) (by decide) h36 rfl dX7_branch_37 rfl ?_
      refine ks_ti (y := nI 202) rfl ?_
      refine ks_icmp_ltN (tgt := 43) (by omega) (by decide) dX7_branch_38 (by decide) rfl (fun hc38 => ?_) (fun hc38 => ?_)
      · refine ks_aload_n dX7_branch_43 rfl rfl ?_
        refine ks_getf (T := TX7) (kf := 4) kx_647 rfl in_X7 cl_X7 (by decide) hM rfl dX7_branch_44 rfl ?_
        refine ks_aload_n dX7_branch_47 rfl rfl ?_
        refine ks_getf (T := TX7) (kf := 14) kx_657 rfl in_X7 cl_X7 (by decide) hM rfl dX7_branch_48 rfl ?_
        refine ks_aload_n dX7_branch_51 rfl rfl ?_
        refine ks_getf (T := TX7) (kf := 15) kx_658 rfl in_X7 cl_X7 (by decide) hM rfl dX7_branch_52 rfl ?_
        refine ks_if_neN (tgt := 83) (by omega) dX7_branch_55 (by decide) rfl (fun hc55 => ?_) (fun hc55 => ?_)
        · refine ks_iconst (x := nI 0) dX7_branch_83 (by decide) rfl ?_
          refine ks_zastN (i := cs.length) (v := false) h36 (by omega) (by decide) dX7_branch_84 rfl ?_
          refine ks_aload_n dX7_branch_85 rfl rfl ?_
          refine ks_getf (T := TX7) (kf := 15) kx_658 rfl in_X7 cl_X7 (by decide) ((ks_set_ne _ _ (by decide)).trans hM) rfl dX7_branch_86 rfl ?_
          refine ks_if_neN (tgt := 101) (by omega) dX7_branch_89 (by decide) rfl (fun hc89 => ?_) (fun hc89 => ?_)
          · have V1 : stV LBr S _ u := stV.of (ks_up_set S (a := 36) (kZ 202 (va_up dn cs.length false)) (L := [36]) (by decide)) (by decide) (by decide)
            refine ks_sub [(0, _), (1, _)] rfl (J false _ _ V1 (hO.up (ks_up_set S (a := 36) _ (L := [36]) (by decide)) (by decide)) ((ks_set_ne _ _ (by decide)).trans hM) (ks_set_same _ _ _) ?_)
            unfold brS
            rw [if_pos (by omega)]
            rw [if_neg (by omega)]
          · omega
        · omega
      · refine ks_iconst (x := nI 0) dX7_branch_41 (by decide) rfl ?_
        refine ks_zret rfl rfl dX7_branch_42 ?_
        unfold brS
        first | (rw [if_pos (by omega), if_pos (by omega), if_pos (List.eq_nil_of_length_eq_zero (by omega))]; exact ⟨rfl, rfl⟩) | omega
    · refine ks_aload_n dX7_branch_19 rfl rfl ?_
      refine ks_getf (T := TX7) (kf := 3) kx_646 rfl in_X7 cl_X7 (by decide) hM rfl dX7_branch_20 rfl ?_
      refine ks_getf (T := TX8) (kf := 3) kx_615 rfl in_X8 cl_X8 (by decide) hO.ob rfl dX7_branch_23 rfl ?_
      refine ks_if_eqN (tgt := 41) (by omega) dX7_branch_26 (by decide) rfl (fun hc26 => ?_) (fun hc26 => ?_)
      · refine ks_iconst (x := nI 0) dX7_branch_41 (by decide) rfl ?_
        refine ks_zret rfl rfl dX7_branch_42 ?_
        unfold brS
        first | (rw [if_pos (by omega), if_pos (by omega), if_pos (List.eq_nil_of_length_eq_zero (by omega))]; exact ⟨rfl, rfl⟩) | omega
      · refine ks_aload_n dX7_branch_29 rfl rfl ?_
        refine ks_getf (T := TX7) (kf := 14) kx_657 rfl in_X7 cl_X7 (by decide) hM rfl dX7_branch_30 rfl ?_
        refine ks_aload_n dX7_branch_33 rfl rfl ?_
        refine ks_getf (T := TX7) (kf := 4) kx_647 rfl in_X7 cl_X7 (by decide) hM rfl dX7_branch_34 rfl ?_
        refine ks_alenT (by decide) (by decide) h36 rfl dX7_branch_37 rfl ?_
        refine ks_ti (y := nI 202) rfl ?_
        refine ks_icmp_ltN (tgt := 43) (by omega) (by decide) dX7_branch_38 (by decide) rfl (fun hc38 => ?_) (fun hc38 => ?_)
        · refine ks_aload_n dX7_branch_43 rfl rfl ?_
          refine ks_getf (T := TX7) (kf := 4) kx_647 rfl in_X7 cl_X7 (by decide) hM rfl dX7_branch_44 rfl ?_
          refine ks_aload_n dX7_branch_47 rfl rfl ?_
          refine ks_getf (T := TX7) (kf := 14) kx_657 rfl in_X7 cl_X7 (by decide) hM rfl dX7_branch_48 rfl ?_
          refine ks_aload_n dX7_branch_51 rfl rfl ?_
          refine ks_getf (T := TX7) (kf := 15) kx_658 rfl in_X7 cl_X7 (by decide) hM rfl dX7_branch_52 rfl ?_
          refine ks_if_neN (tgt := 83) (by omega) dX7_branch_55 (by decide) rfl (fun hc55 => ?_) (fun hc55 => ?_)
          · omega
          · refine ks_aload_n dX7_branch_58 rfl rfl ?_
            refine ks_getf (T := TX7) (kf := 3) kx_646 rfl in_X7 cl_X7 (by decide) hM rfl dX7_branch_59 rfl ?_
            refine ks_callV (n := 0) (M' := mX8_isTopTrue) (c_st_isTopTrue (d := d) hO) hO.ob cl_X8 rfl kx_1571 kx_1572 kx_1573 kx_25 kx_1574 (by decide +kernel) rfl (by decide) (Nat.le_of_ble_eq_true rfl) rfl dX7_branch_62 rfl (fun r1 T1 q1 => ?_)
            obtain ⟨rfl, hS1⟩ := q1
            obtain rfl := hS1.symm
            refine ks_iload_n dX7_branch_65 rfl rfl ?_
            refine ks_bipush (x := nI 99) dX7_branch_66 (by decide) rfl ?_
            refine ks_icmp_neN (tgt := 75) (by omega) (by decide) dX7_branch_68 (by decide) rfl (fun hc68 => ?_) (fun hc68 => ?_)
            · omega
            · refine ks_iconst (x := nI 1) dX7_branch_71 (by decide) rfl ?_
              refine ks_goto (tgt := 76) dX7_branch_72 (by decide) ?_
              refine ks_icmp_neZ (z := topTr xs) (w := true) (tgt := 83) dX7_branch_76 (by decide) rfl (fun hc76 => ?_) (fun hc76 => ?_)
              · refine ks_iconst (x := nI 0) dX7_branch_83 (by decide) rfl ?_
                refine ks_zastN (i := cs.length) (v := false) h36 (by omega) (by decide) dX7_branch_84 rfl ?_
                refine ks_aload_n dX7_branch_85 rfl rfl ?_
                refine ks_getf (T := TX7) (kf := 15) kx_658 rfl in_X7 cl_X7 (by decide) ((ks_set_ne _ _ (by decide)).trans hM) rfl dX7_branch_86 rfl ?_
                refine ks_if_neN (tgt := 101) (by omega) dX7_branch_89 (by decide) rfl (fun hc89 => ?_) (fun hc89 => ?_)
                · omega
                · refine ks_aload_n dX7_branch_92 rfl rfl ?_
                  refine ks_getf (T := TX7) (kf := 3) kx_646 rfl in_X7 cl_X7 (by decide) ((ks_set_ne _ _ (by decide)).trans hM) rfl dX7_branch_93 rfl ?_
                  refine ks_iconst (x := nI 1) dX7_branch_96 (by decide) rfl ?_
                  refine ks_callV (n := 1) (M' := mX8_drop) (c_st_drop (d := d) (c := 1) (hO.up (ks_up_set S (a := 36) _ (L := [36]) (by decide)) (by decide)) (by omega)) ((ks_set_ne _ _ (by decide)).trans hO.ob) cl_X8 rfl kx_1575 kx_1576 kx_1577 kx_25 kx_1578 (by decide +kernel) rfl (by decide) (Nat.le_of_ble_eq_true rfl) rfl dX7_branch_97 rfl (fun r2 T2 q2 => ?_)
                  obtain ⟨rfl, u2, o2⟩ := q2
                  have m2 := u2.1.at ((ks_set_ne _ _ (by decide)).trans hM) (by decide)
                  refine ks_pop dX7_branch_100 rfl rfl ?_
                  have V1 : stV LBr S _ u := (stV.of (ks_up_set S (a := 36) (kZ 202 (va_up dn cs.length false)) (L := [36]) (by decide)) (by decide) (by decide)).trans (u2.v (by decide)) (Nat.le_refl _)
                  refine ks_sub [(0, _), (1, _)] rfl (J false _ _ V1 o2 m2 (u2.1.at (ks_set_same _ _ _) (by decide)) ?_)
                  unfold brS
                  rw [if_pos (by omega)]
                  rw [if_pos (by omega), if_neg (fun h => hc26 (by rw [h]; rfl))]
                  first | (rw [hc76]; done) | skip
                  congr 3
                  (first | (have e9 : op = 99 := by omega) | (have e9 : op = 100 := by omega))
                  subst e9
                  revert hc76
                  cases topTr xs <;> simp
              · refine ks_iconst (x := nI 1) dX7_branch_79 (by decide) rfl ?_
                refine ks_goto (tgt := 84) dX7_branch_80 (by decide) ?_
                refine ks_zastN (i := cs.length) (v := true) h36 (by omega) (by decide) dX7_branch_84 rfl ?_
                refine ks_aload_n dX7_branch_85 rfl rfl ?_
                refine ks_getf (T := TX7) (kf := 15) kx_658 rfl in_X7 cl_X7 (by decide) ((ks_set_ne _ _ (by decide)).trans hM) rfl dX7_branch_86 rfl ?_
                refine ks_if_neN (tgt := 101) (by omega) dX7_branch_89 (by decide) rfl (fun hc89 => ?_) (fun hc89 => ?_)
                · omega
                · refine ks_aload_n dX7_branch_92 rfl rfl ?_
                  refine ks_getf (T := TX7) (kf := 3) kx_646 rfl in_X7 cl_X7 (by decide) ((ks_set_ne _ _ (by decide)).trans hM) rfl dX7_branch_93 rfl ?_
                  refine ks_iconst (x := nI 1) dX7_branch_96 (by decide) rfl ?_
                  refine ks_callV (n := 1) (M' := mX8_drop) (c_st_drop (d := d) (c := 1) (hO.up (ks_up_set S (a := 36) _ (L := [36]) (by decide)) (by decide)) (by omega)) ((ks_set_ne _ _ (by decide)).trans hO.ob) cl_X8 rfl kx_1575 kx_1576 kx_1577 kx_25 kx_1578 (by decide +kernel) rfl (by decide) (Nat.le_of_ble_eq_true rfl) rfl dX7_branch_97 rfl (fun r2 T2 q2 => ?_)
                  obtain ⟨rfl, u2, o2⟩ := q2
                  have m2 := u2.1.at ((ks_set_ne _ _ (by decide)).trans hM) (by decide)
                  refine ks_pop dX7_branch_100 rfl rfl ?_
                  have V1 : stV LBr S _ u := (stV.of (ks_up_set S (a := 36) (kZ 202 (va_up dn cs.length true)) (L := [36]) (by decide)) (by decide) (by decide)).trans (u2.v (by decide)) (Nat.le_refl _)
                  refine ks_sub [(0, _), (1, _)] rfl (J true _ _ V1 o2 m2 (u2.1.at (ks_set_same _ _ _) (by decide)) ?_)
                  unfold brS
                  rw [if_pos (by omega)]
                  rw [if_pos (by omega), if_neg (fun h => hc26 (by rw [h]; rfl))]
                  first | (rw [hc76]; done) | skip
                  congr 3
                  (first | (have e9 : op = 99 := by omega) | (have e9 : op = 100 := by omega))
                  subst e9
                  revert hc76
                  cases topTr xs <;> simp
        · refine ks_iconst (x := nI 0) dX7_branch_41 (by decide) rfl ?_
          refine ks_zret rfl rfl dX7_branch_42 ?_
          unfold brS
          first | (rw [if_pos (by omega), if_pos (by omega), if_pos (List.eq_nil_of_length_eq_zero (by omega))]; exact ⟨rfl, rfl⟩) | omega
  · refine ks_iload_n dX7_branch_6 rfl rfl ?_
    refine ks_bipush (x := nI 100) dX7_branch_7 (by decide) rfl ?_
    refine ks_icmp_neN (tgt := 139) (by omega) (by decide) dX7_branch_9 (by decide) rfl (fun hc9 => ?_) (fun hc9 => ?_)
    · refine ks_aload_n dX7_branch_139 rfl rfl ?_
      refine ks_getf (T := TX7) (kf := 14) kx_657 rfl in_X7 cl_X7 (by decide) hM rfl dX7_branch_140 rfl ?_
      refine ks_if_neN (tgt := 148) (by omega) dX7_branch_143 (by decide) rfl (fun hc143 => ?_) (fun hc143 => ?_)
      · obtain ⟨b0, r0, rfl⟩ : ∃ b r, cs = b :: r := by
          match cs, hc143 with
          | b :: r, _ => exact ⟨b, r, rfl⟩
          | [], h => simp at h
        have hb0 : dn r0.length = b0 ∧ r0 = csE dn r0.length := by
          rw [List.length_cons, csE] at hcs
          injection hcs with a1 a2
          exact ⟨a1.symm, a2⟩
        have hr1 := clN_le r0
        have hll : (b0 :: r0).length = r0.length + 1 := rfl
        refine ks_aload_n dX7_branch_148 rfl rfl ?_
        refine ks_getf (T := TX7) (kf := 4) kx_647 rfl in_X7 cl_X7 (by decide) hM rfl dX7_branch_149 rfl ?_
        refine ks_aload_n dX7_branch_152 rfl rfl ?_
        refine ks_getf (T := TX7) (kf := 14) kx_657 rfl in_X7 cl_X7 (by decide) hM rfl dX7_branch_153 rfl ?_
        refine ks_iconst (x := nI 1) dX7_branch_156 (by decide) rfl ?_
        refine ks_subN (by omega) dX7_branch_157 rfl ?_
        refine ks_ti (y := nI (r0.length)) rfl ?_
        refine ks_zaldN (i := r0.length) h36 (by omega) (by decide) dX7_branch_158 rfl ?_
        rw [hb0.1]
        refine ks_istore_n dX7_branch_159 (by decide) rfl ?_
        refine ks_sub [(2, _), (0, _), (1, _)] rfl ?_
        refine ks_aload_n dX7_branch_160 rfl rfl ?_
        refine ks_dup dX7_branch_161 rfl rfl ?_
        refine ks_getf (T := TX7) (kf := 15) kx_658 rfl in_X7 cl_X7 (by decide) hM rfl dX7_branch_162 rfl ?_
        refine ks_iload_n dX7_branch_165 rfl rfl ?_
        refine ks_if_eqZ (tgt := 173) dX7_branch_166 (by decide) rfl (fun hb => ?_) (fun hb => ?_)
        · have ecl : clN (b0 :: r0) = clN r0 + 1 := by rw [clN, hb]; rfl
          refine ks_iconst (x := nI 1) dX7_branch_173 (by decide) rfl ?_
          refine ks_subN (by omega) dX7_branch_174 rfl ?_
          refine ks_putf (T := TX7) (kf := 15) kx_658 rfl in_X7 tyX7_ok nmX7 cl_X7 (by decide) hM (Nat.le_of_ble_eq_true rfl) rfl rfl rfl rfl dX7_branch_175 rfl ?_
          refine ks_iload_n dX7_branch_178 rfl rfl ?_
          refine ks_bipush (x := nI 104) dX7_branch_179 (by decide) rfl ?_
          refine ks_icmp_neN (tgt := 197) (by omega) (by decide) dX7_branch_181 (by decide) rfl (fun h104 => ?_) (fun h104 => ?_)
          · refine ks_aload_n dX7_branch_197 rfl rfl ?_
            refine ks_getf (T := TX7) (kf := 4) kx_647 rfl in_X7 cl_X7 (by decide) (ks_set_same _ _ _) rfl dX7_branch_198 rfl ?_
            refine ks_aload_n dX7_branch_201 rfl rfl ?_
            refine ks_getf (T := TX7) (kf := 14) kx_657 rfl in_X7 cl_X7 (by decide) (ks_set_same _ _ _) rfl dX7_branch_202 rfl ?_
            refine ks_iconst (x := nI 1) dX7_branch_205 (by decide) rfl ?_
            refine ks_subN (by omega) dX7_branch_206 rfl ?_
            refine ks_ti (y := nI (r0.length)) rfl ?_
            refine ks_iload_n dX7_branch_207 rfl rfl ?_
            refine ks_if_neZ (tgt := 215) dX7_branch_208 (by decide) rfl (fun hb208 => ?_) (fun hb208 => ?_)
            · exact absurd hb208 (by rw [hb]; decide)
            · refine ks_iconst (x := nI 1) dX7_branch_211 (by decide) rfl ?_
              refine ks_goto (tgt := 216) dX7_branch_212 (by decide) ?_
              refine ks_zastN (i := r0.length) (v := true) ((ks_set_ne _ _ (by decide)).trans h36) (by omega) (by decide) dX7_branch_216 rfl ?_
              refine ks_aload_n dX7_branch_217 rfl rfl ?_
              refine ks_dup dX7_branch_218 rfl rfl ?_
              refine ks_getf (T := TX7) (kf := 15) kx_658 rfl in_X7 cl_X7 (by decide) ((ks_set_ne _ _ (by decide)).trans (ks_set_same _ _ _)) rfl dX7_branch_219 rfl ?_
              refine ks_iload_n dX7_branch_222 rfl rfl ?_
              refine ks_if_eqZ (tgt := 230) dX7_branch_223 (by decide) rfl (fun hb223 => ?_) (fun hb223 => ?_)
              · refine ks_iconst (x := nI 0) dX7_branch_230 (by decide) rfl ?_
                refine ks_addN dX7_branch_231 rfl ?_
                refine ks_putf (T := TX7) (kf := 15) kx_658 rfl in_X7 tyX7_ok nmX7 cl_X7 (by decide) ((ks_set_ne _ _ (by decide)).trans (ks_set_same _ _ _)) (Nat.le_of_ble_eq_true rfl) rfl rfl rfl rfl dX7_branch_232 rfl ?_
                refine ks_iconst (x := nI 1) dX7_branch_235 (by decide) rfl ?_
                refine ks_zret rfl rfl dX7_branch_236 ?_
                unfold brS
                rw [if_neg (by omega)]
                simp only []
                rw [if_neg (by omega)]
                refine ⟨rfl, stV.of (L2 := [27, 36]) (by repeat first | exact ks_up_set _ _ (by decide) | refine ks_up.trans ?_ (ks_up_set _ _ (by decide))) (by decide) (by decide), hO.up (L := [27, 36]) (by repeat first | exact ks_up_set _ _ (by decide) | refine ks_up.trans ?_ (ks_up_set _ _ (by decide))) (by decide), ⟨va_up dn r0.length (!b0), ?_, ?_⟩, ?_⟩
                · rw [hb]
                  exact ((ks_set_ne _ _ (by decide)).trans (ks_set_same _ _ _))
                · show (!b0) :: r0 = csE (va_up dn r0.length (!b0)) (r0.length + 1)
                  rw [csE, va_up_self, csE_congr (g := dn) (fun i hi => va_up_ne _ _ (by omega)), ← hb0.2]
                · have e7 : clN ((!b0) :: r0) = (clN (b0 :: r0) - 1) + 0 := by rw [clN, hb]; first | rfl | (show clN r0 + _ = _; simp only [ecl]; rfl) | (simp; omega)
                  show _ = some (mcO inp cy pa pe pb ops (r0.length + 1) (clN ((!b0) :: r0)) kT kC sT sC)
                  rw [e7]
                  exact (ks_set_same _ _ _)
              · exact absurd hb223 (by rw [hb208]; decide)
          · refine ks_aload_n dX7_branch_184 rfl rfl ?_
            refine ks_dup dX7_branch_185 rfl rfl ?_
            refine ks_getf (T := TX7) (kf := 14) kx_657 rfl in_X7 cl_X7 (by decide) (ks_set_same _ _ _) rfl dX7_branch_186 rfl ?_
            refine ks_iconst (x := nI 1) dX7_branch_189 (by decide) rfl ?_
            refine ks_subN (by omega) dX7_branch_190 rfl ?_
            refine ks_ti (y := nI (r0.length)) rfl ?_
            refine ks_putf (T := TX7) (kf := 14) kx_657 rfl in_X7 tyX7_ok nmX7 cl_X7 (by decide) (ks_set_same _ _ _) (Nat.le_of_ble_eq_true rfl) rfl rfl rfl rfl dX7_branch_191 rfl ?_
            refine ks_goto (tgt := 235) dX7_branch_194 (by decide) ?_
            refine ks_iconst (x := nI 1) dX7_branch_235 (by decide) rfl ?_
            refine ks_zret rfl rfl dX7_branch_236 ?_
            unfold brS
            rw [if_neg (by omega)]
            simp only []
            rw [if_pos (by omega)]
            refine ⟨rfl, stV.of (L2 := [27, 36]) (by repeat first | exact ks_up_set _ _ (by decide) | refine ks_up.trans ?_ (ks_up_set _ _ (by decide))) (by decide) (by decide), hO.up (L := [27, 36]) (by repeat first | exact ks_up_set _ _ (by decide) | refine ks_up.trans ?_ (ks_up_set _ _ (by decide))) (by decide), ⟨dn, ((ks_set_ne _ _ (by decide)).trans ((ks_set_ne _ _ (by decide)).trans h36)), hb0.2⟩, ?_⟩
            have e7 : clN r0 = clN (b0 :: r0) - 1 := by omega
            show _ = some (mcO inp cy pa pe pb ops r0.length (clN r0) kT kC sT sC)
            rw [e7]
            exact (ks_set_same _ _ _)
        · have ecl : clN (b0 :: r0) = clN r0 + 0 := by rw [clN, hb]; rfl
          refine ks_iconst (x := nI 0) dX7_branch_169 (by decide) rfl ?_
          refine ks_goto (tgt := 174) dX7_branch_170 (by decide) ?_
          refine ks_subN (by omega) dX7_branch_174 rfl ?_
          refine ks_putf (T := TX7) (kf := 15) kx_658 rfl in_X7 tyX7_ok nmX7 cl_X7 (by decide) hM (Nat.le_of_ble_eq_true rfl) rfl rfl rfl rfl dX7_branch_175 rfl ?_
          refine ks_iload_n dX7_branch_178 rfl rfl ?_
          refine ks_bipush (x := nI 104) dX7_branch_179 (by decide) rfl ?_
          refine ks_icmp_neN (tgt := 197) (by omega) (by decide) dX7_branch_181 (by decide) rfl (fun h104 => ?_) (fun h104 => ?_)
          · refine ks_aload_n dX7_branch_197 rfl rfl ?_
            refine ks_getf (T := TX7) (kf := 4) kx_647 rfl in_X7 cl_X7 (by decide) (ks_set_same _ _ _) rfl dX7_branch_198 rfl ?_
            refine ks_aload_n dX7_branch_201 rfl rfl ?_
            refine ks_getf (T := TX7) (kf := 14) kx_657 rfl in_X7 cl_X7 (by decide) (ks_set_same _ _ _) rfl dX7_branch_202 rfl ?_
            refine ks_iconst (x := nI 1) dX7_branch_205 (by decide) rfl ?_
            refine ks_subN (by omega) dX7_branch_206 rfl ?_
            refine ks_ti (y := nI (r0.length)) rfl ?_
            refine ks_iload_n dX7_branch_207 rfl rfl ?_
            refine ks_if_neZ (tgt := 215) dX7_branch_208 (by decide) rfl (fun hb208 => ?_) (fun hb208 => ?_)
            · refine ks_iconst (x := nI 0) dX7_branch_215 (by decide) rfl ?_
              refine ks_zastN (i := r0.length) (v := false) ((ks_set_ne _ _ (by decide)).trans h36) (by omega) (by decide) dX7_branch_216 rfl ?_
              refine ks_aload_n dX7_branch_217 rfl rfl ?_
              refine ks_dup dX7_branch_218 rfl rfl ?_
              refine ks_getf (T := TX7) (kf := 15) kx_658 rfl in_X7 cl_X7 (by decide) ((ks_set_ne _ _ (by decide)).trans (ks_set_same _ _ _)) rfl dX7_branch_219 rfl ?_
              refine ks_iload_n dX7_branch_222 rfl rfl ?_
              refine ks_if_eqZ (tgt := 230) dX7_branch_223 (by decide) rfl (fun hb223 => ?_) (fun hb223 => ?_)
              · exact absurd hb223 (by rw [hb208]; decide)
              · refine ks_iconst (x := nI 1) dX7_branch_226 (by decide) rfl ?_
                refine ks_goto (tgt := 231) dX7_branch_227 (by decide) ?_
                refine ks_addN dX7_branch_231 rfl ?_
                refine ks_putf (T := TX7) (kf := 15) kx_658 rfl in_X7 tyX7_ok nmX7 cl_X7 (by decide) ((ks_set_ne _ _ (by decide)).trans (ks_set_same _ _ _)) (Nat.le_of_ble_eq_true rfl) rfl rfl rfl rfl dX7_branch_232 rfl ?_
                refine ks_iconst (x := nI 1) dX7_branch_235 (by decide) rfl ?_
                refine ks_zret rfl rfl dX7_branch_236 ?_
                unfold brS
                rw [if_neg (by omega)]
                simp only []
                rw [if_neg (by omega)]
                refine ⟨rfl, stV.of (L2 := [27, 36]) (by repeat first | exact ks_up_set _ _ (by decide) | refine ks_up.trans ?_ (ks_up_set _ _ (by decide))) (by decide) (by decide), hO.up (L := [27, 36]) (by repeat first | exact ks_up_set _ _ (by decide) | refine ks_up.trans ?_ (ks_up_set _ _ (by decide))) (by decide), ⟨va_up dn r0.length (!b0), ?_, ?_⟩, ?_⟩
                · rw [hb]
                  exact ((ks_set_ne _ _ (by decide)).trans (ks_set_same _ _ _))
                · show (!b0) :: r0 = csE (va_up dn r0.length (!b0)) (r0.length + 1)
                  rw [csE, va_up_self, csE_congr (g := dn) (fun i hi => va_up_ne _ _ (by omega)), ← hb0.2]
                · have e7 : clN ((!b0) :: r0) = (clN (b0 :: r0) - 0) + 1 := by rw [clN, hb]; first | rfl | (show clN r0 + _ = _; simp only [ecl]; rfl) | (simp; omega)
                  show _ = some (mcO inp cy pa pe pb ops (r0.length + 1) (clN ((!b0) :: r0)) kT kC sT sC)
                  rw [e7]
                  exact (ks_set_same _ _ _)
            · exact absurd hb208 (by rw [hb]; decide)
          · refine ks_aload_n dX7_branch_184 rfl rfl ?_
            refine ks_dup dX7_branch_185 rfl rfl ?_
            refine ks_getf (T := TX7) (kf := 14) kx_657 rfl in_X7 cl_X7 (by decide) (ks_set_same _ _ _) rfl dX7_branch_186 rfl ?_
            refine ks_iconst (x := nI 1) dX7_branch_189 (by decide) rfl ?_
            refine ks_subN (by omega) dX7_branch_190 rfl ?_
            refine ks_ti (y := nI (r0.length)) rfl ?_
            refine ks_putf (T := TX7) (kf := 14) kx_657 rfl in_X7 tyX7_ok nmX7 cl_X7 (by decide) (ks_set_same _ _ _) (Nat.le_of_ble_eq_true rfl) rfl rfl rfl rfl dX7_branch_191 rfl ?_
            refine ks_goto (tgt := 235) dX7_branch_194 (by decide) ?_
            refine ks_iconst (x := nI 1) dX7_branch_235 (by decide) rfl ?_
            refine ks_zret rfl rfl dX7_branch_236 ?_
            unfold brS
            rw [if_neg (by omega)]
            simp only []
            rw [if_pos (by omega)]
            refine ⟨rfl, stV.of (L2 := [27, 36]) (by repeat first | exact ks_up_set _ _ (by decide) | refine ks_up.trans ?_ (ks_up_set _ _ (by decide))) (by decide) (by decide), hO.up (L := [27, 36]) (by repeat first | exact ks_up_set _ _ (by decide) | refine ks_up.trans ?_ (ks_up_set _ _ (by decide))) (by decide), ⟨dn, ((ks_set_ne _ _ (by decide)).trans ((ks_set_ne _ _ (by decide)).trans h36)), hb0.2⟩, ?_⟩
            have e7 : clN r0 = clN (b0 :: r0) - 0 := by omega
            show _ = some (mcO inp cy pa pe pb ops r0.length (clN r0) kT kC sT sC)
            rw [e7]
            exact (ks_set_same _ _ _)
      · refine ks_iconst (x := nI 0) dX7_branch_146 (by decide) rfl ?_
        refine ks_zret rfl rfl dX7_branch_147 ?_
        have e0 : cs = [] := List.eq_nil_of_length_eq_zero (by omega)
        unfold brS
        rw [if_neg (by omega), e0]
        exact ⟨rfl, rfl⟩
    · refine ks_aload_n dX7_branch_12 rfl rfl ?_
      refine ks_getf (T := TX7) (kf := 15) kx_658 rfl in_X7 cl_X7 (by decide) hM rfl dX7_branch_13 rfl ?_
      refine ks_if_neN (tgt := 29) (by omega) dX7_branch_16 (by decide) rfl (fun hc16 => ?_) (fun hc16 => ?_)
      · refine ks_aload_n dX7_branch_29 rfl rfl ?_
        refine ks_getf (T := TX7) (kf := 14) kx_657 rfl in_X7 cl_X7 (by decide) hM rfl dX7_branch_30 rfl ?_
        refine ks_aload_n dX7_branch_33 rfl rfl ?_
        refine ks_getf (T := TX7) (kf := 4) kx_647 rfl in_X7 cl_X7 (by decide) hM rfl dX7_branch_34 rfl ?_
        refine ks_alenT (by decide) (by decide) h36 rfl dX7_branch_37 rfl ?_
        refine ks_ti (y := nI 202) rfl ?_
        refine ks_icmp_ltN (tgt := 43) (by omega) (by decide) dX7_branch_38 (by decide) rfl (fun hc38 => ?_) (fun hc38 => ?_)
        · refine ks_aload_n dX7_branch_43 rfl rfl ?_
          refine ks_getf (T := TX7) (kf := 4) kx_647 rfl in_X7 cl_X7 (by decide) hM rfl dX7_branch_44 rfl ?_
          refine ks_aload_n dX7_branch_47 rfl rfl ?_
          refine ks_getf (T := TX7) (kf := 14) kx_657 rfl in_X7 cl_X7 (by decide) hM rfl dX7_branch_48 rfl ?_
          refine ks_aload_n dX7_branch_51 rfl rfl ?_
          refine ks_getf (T := TX7) (kf := 15) kx_658 rfl in_X7 cl_X7 (by decide) hM rfl dX7_branch_52 rfl ?_
          refine ks_if_neN (tgt := 83) (by omega) dX7_branch_55 (by decide) rfl (fun hc55 => ?_) (fun hc55 => ?_)
          · refine ks_iconst (x := nI 0) dX7_branch_83 (by decide) rfl ?_
            refine ks_zastN (i := cs.length) (v := false) h36 (by omega) (by decide) dX7_branch_84 rfl ?_
            refine ks_aload_n dX7_branch_85 rfl rfl ?_
            refine ks_getf (T := TX7) (kf := 15) kx_658 rfl in_X7 cl_X7 (by decide) ((ks_set_ne _ _ (by decide)).trans hM) rfl dX7_branch_86 rfl ?_
            refine ks_if_neN (tgt := 101) (by omega) dX7_branch_89 (by decide) rfl (fun hc89 => ?_) (fun hc89 => ?_)
            · have V1 : stV LBr S _ u := stV.of (ks_up_set S (a := 36) (kZ 202 (va_up dn cs.length false)) (L := [36]) (by decide)) (by decide) (by decide)
              refine ks_sub [(0, _), (1, _)] rfl (J false _ _ V1 (hO.up (ks_up_set S (a := 36) _ (L := [36]) (by decide)) (by decide)) ((ks_set_ne _ _ (by decide)).trans hM) (ks_set_same _ _ _) ?_)
              unfold brS
              rw [if_pos (by omega)]
              rw [if_neg (by omega)]
            · omega
          · omega
        · refine ks_iconst (x := nI 0) dX7_branch_41 (by decide) rfl ?_
          refine ks_zret rfl rfl dX7_branch_42 ?_
          unfold brS
          first | (rw [if_pos (by omega), if_pos (by omega), if_pos (List.eq_nil_of_length_eq_zero (by omega))]; exact ⟨rfl, rfl⟩) | omega
      · refine ks_aload_n dX7_branch_19 rfl rfl ?_
        refine ks_getf (T := TX7) (kf := 3) kx_646 rfl in_X7 cl_X7 (by decide) hM rfl dX7_branch_20 rfl ?_
        refine ks_getf (T := TX8) (kf := 3) kx_615 rfl in_X8 cl_X8 (by decide) hO.ob rfl dX7_branch_23 rfl ?_
        refine ks_if_eqN (tgt := 41) (by omega) dX7_branch_26 (by decide) rfl (fun hc26 => ?_) (fun hc26 => ?_)
        · refine ks_iconst (x := nI 0) dX7_branch_41 (by decide) rfl ?_
          refine ks_zret rfl rfl dX7_branch_42 ?_
          unfold brS
          first | (rw [if_pos (by omega), if_pos (by omega), if_pos (List.eq_nil_of_length_eq_zero (by omega))]; exact ⟨rfl, rfl⟩) | omega
        · refine ks_aload_n dX7_branch_29 rfl rfl ?_
          refine ks_getf (T := TX7) (kf := 14) kx_657 rfl in_X7 cl_X7 (by decide) hM rfl dX7_branch_30 rfl ?_
          refine ks_aload_n dX7_branch_33 rfl rfl ?_
          refine ks_getf (T := TX7) (kf := 4) kx_647 rfl in_X7 cl_X7 (by decide) hM rfl dX7_branch_34 rfl ?_
          refine ks_alenT (by decide) (by decide) h36 rfl dX7_branch_37 rfl ?_
          refine ks_ti (y := nI 202) rfl ?_
          refine ks_icmp_ltN (tgt := 43) (by omega) (by decide) dX7_branch_38 (by decide) rfl (fun hc38 => ?_) (fun hc38 => ?_)
          · refine ks_aload_n dX7_branch_43 rfl rfl ?_
            refine ks_getf (T := TX7) (kf := 4) kx_647 rfl in_X7 cl_X7 (by decide) hM rfl dX7_branch_44 rfl ?_
            refine ks_aload_n dX7_branch_47 rfl rfl ?_
            refine ks_getf (T := TX7) (kf := 14) kx_657 rfl in_X7 cl_X7 (by decide) hM rfl dX7_branch_48 rfl ?_
            refine ks_aload_n dX7_branch_51 rfl rfl ?_
            refine ks_getf (T := TX7) (kf := 15) kx_658 rfl in_X7 cl_X7 (by decide) hM rfl dX7_branch_52 rfl ?_
            refine ks_if_neN (tgt := 83) (by omega) dX7_branch_55 (by decide) rfl (fun hc55 => ?_) (fun hc55 => ?_)
            · omega
            · refine ks_aload_n dX7_branch_58 rfl rfl ?_
              refine ks_getf (T := TX7) (kf := 3) kx_646 rfl in_X7 cl_X7 (by decide) hM rfl dX7_branch_59 rfl ?_
              refine ks_callV (n := 0) (M' := mX8_isTopTrue) (c_st_isTopTrue (d := d) hO) hO.ob cl_X8 rfl kx_1571 kx_1572 kx_1573 kx_25 kx_1574 (by decide +kernel) rfl (by decide) (Nat.le_of_ble_eq_true rfl) rfl dX7_branch_62 rfl (fun r1 T1 q1 => ?_)
              obtain ⟨rfl, hS1⟩ := q1
              obtain rfl := hS1.symm
              refine ks_iload_n dX7_branch_65 rfl rfl ?_
              refine ks_bipush (x := nI 99) dX7_branch_66 (by decide) rfl ?_
              refine ks_icmp_neN (tgt := 75) (by omega) (by decide) dX7_branch_68 (by decide) rfl (fun hc68 => ?_) (fun hc68 => ?_)
              · refine ks_iconst (x := nI 0) dX7_branch_75 (by decide) rfl ?_
                refine ks_icmp_neZ (z := topTr xs) (w := false) (tgt := 83) dX7_branch_76 (by decide) rfl (fun hc76 => ?_) (fun hc76 => ?_)
                · refine ks_iconst (x := nI 0) dX7_branch_83 (by decide) rfl ?_
                  refine ks_zastN (i := cs.length) (v := false) h36 (by omega) (by decide) dX7_branch_84 rfl ?_
                  refine ks_aload_n dX7_branch_85 rfl rfl ?_
                  refine ks_getf (T := TX7) (kf := 15) kx_658 rfl in_X7 cl_X7 (by decide) ((ks_set_ne _ _ (by decide)).trans hM) rfl dX7_branch_86 rfl ?_
                  refine ks_if_neN (tgt := 101) (by omega) dX7_branch_89 (by decide) rfl (fun hc89 => ?_) (fun hc89 => ?_)
                  · omega
                  · refine ks_aload_n dX7_branch_92 rfl rfl ?_
                    refine ks_getf (T := TX7) (kf := 3) kx_646 rfl in_X7 cl_X7 (by decide) ((ks_set_ne _ _ (by decide)).trans hM) rfl dX7_branch_93 rfl ?_
                    refine ks_iconst (x := nI 1) dX7_branch_96 (by decide) rfl ?_
                    refine ks_callV (n := 1) (M' := mX8_drop) (c_st_drop (d := d) (c := 1) (hO.up (ks_up_set S (a := 36) _ (L := [36]) (by decide)) (by decide)) (by omega)) ((ks_set_ne _ _ (by decide)).trans hO.ob) cl_X8 rfl kx_1575 kx_1576 kx_1577 kx_25 kx_1578 (by decide +kernel) rfl (by decide) (Nat.le_of_ble_eq_true rfl) rfl dX7_branch_97 rfl (fun r2 T2 q2 => ?_)
                    obtain ⟨rfl, u2, o2⟩ := q2
                    have m2 := u2.1.at ((ks_set_ne _ _ (by decide)).trans hM) (by decide)
                    refine ks_pop dX7_branch_100 rfl rfl ?_
                    have V1 : stV LBr S _ u := (stV.of (ks_up_set S (a := 36) (kZ 202 (va_up dn cs.length false)) (L := [36]) (by decide)) (by decide) (by decide)).trans (u2.v (by decide)) (Nat.le_refl _)
                    refine ks_sub [(0, _), (1, _)] rfl (J false _ _ V1 o2 m2 (u2.1.at (ks_set_same _ _ _) (by decide)) ?_)
                    unfold brS
                    rw [if_pos (by omega)]
                    rw [if_pos (by omega), if_neg (fun h => hc26 (by rw [h]; rfl))]
                    first | (rw [hc76]; done) | skip
                    congr 3
                    (first | (have e9 : op = 99 := by omega) | (have e9 : op = 100 := by omega))
                    subst e9
                    revert hc76
                    cases topTr xs <;> simp
                · refine ks_iconst (x := nI 1) dX7_branch_79 (by decide) rfl ?_
                  refine ks_goto (tgt := 84) dX7_branch_80 (by decide) ?_
                  refine ks_zastN (i := cs.length) (v := true) h36 (by omega) (by decide) dX7_branch_84 rfl ?_
                  refine ks_aload_n dX7_branch_85 rfl rfl ?_
                  refine ks_getf (T := TX7) (kf := 15) kx_658 rfl in_X7 cl_X7 (by decide) ((ks_set_ne _ _ (by decide)).trans hM) rfl dX7_branch_86 rfl ?_
                  refine ks_if_neN (tgt := 101) (by omega) dX7_branch_89 (by decide) rfl (fun hc89 => ?_) (fun hc89 => ?_)
                  · omega
                  · refine ks_aload_n dX7_branch_92 rfl rfl ?_
                    refine ks_getf (T := TX7) (kf := 3) kx_646 rfl in_X7 cl_X7 (by decide) ((ks_set_ne _ _ (by decide)).trans hM) rfl dX7_branch_93 rfl ?_
                    refine ks_iconst (x := nI 1) dX7_branch_96 (by decide) rfl ?_
                    refine ks_callV (n := 1) (M' := mX8_drop) (c_st_drop (d := d) (c := 1) (hO.up (ks_up_set S (a := 36) _ (L := [36]) (by decide)) (by decide)) (by omega)) ((ks_set_ne _ _ (by decide)).trans hO.ob) cl_X8 rfl kx_1575 kx_1576 kx_1577 kx_25 kx_1578 (by decide +kernel) rfl (by decide) (Nat.le_of_ble_eq_true rfl) rfl dX7_branch_97 rfl (fun r2 T2 q2 => ?_)
                    obtain ⟨rfl, u2, o2⟩ := q2
                    have m2 := u2.1.at ((ks_set_ne _ _ (by decide)).trans hM) (by decide)
                    refine ks_pop dX7_branch_100 rfl rfl ?_
                    have V1 : stV LBr S _ u := (stV.of (ks_up_set S (a := 36) (kZ 202 (va_up dn cs.length true)) (L := [36]) (by decide)) (by decide) (by decide)).trans (u2.v (by decide)) (Nat.le_refl _)
                    refine ks_sub [(0, _), (1, _)] rfl (J true _ _ V1 o2 m2 (u2.1.at (ks_set_same _ _ _) (by decide)) ?_)
                    unfold brS
                    rw [if_pos (by omega)]
                    rw [if_pos (by omega), if_neg (fun h => hc26 (by rw [h]; rfl))]
                    first | (rw [hc76]; done) | skip
                    congr 3
                    (first | (have e9 : op = 99 := by omega) | (have e9 : op = 100 := by omega))
                    subst e9
                    revert hc76
                    cases topTr xs <;> simp
              · omega
          · refine ks_iconst (x := nI 0) dX7_branch_41 (by decide) rfl ?_
            refine ks_zret rfl rfl dX7_branch_42 ?_
            unfold brS
            first | (rw [if_pos (by omega), if_pos (by omega), if_pos (List.eq_nil_of_length_eq_zero (by omega))]; exact ⟨rfl, rfl⟩) | omega

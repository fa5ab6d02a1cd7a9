/-! MACHINE: hashes of the top, perform -/
theorem sha_cgr {m m2 : Nat → Nat} {n : Nat} (h : ∀ j, j < n → m j = m2 j) : sha_ m n = sha_ m2 n := by
  unfold sha_
  congr 2
  funext j
  unfold sh_msg
  by_cases c : j < n
  · rw [if_pos c, if_pos c, h j c]
  · rw [if_neg c, if_neg c]
theorem ripe_cgr {m m2 : Nat → Nat} {n : Nat} (h : ∀ j, j < n → m j = m2 j) : ripe_ m n = ripe_ m2 n := by
  unfold ripe_
  congr 2
  funext j
  unfold rp_msg
  by_cases c : j < n
  · rw [if_pos c, if_pos c, h j c]
  · rw [if_neg c, if_neg c]
def shaL (x : List Nat) : List Nat := bytL (sha_ (fun j => x.getD j 0) x.length) 0 32
def ripL (x : List Nat) : List Nat := bytL (ripe_ (fun j => x.getD j 0) x.length) 0 20
theorem shaL_len (x : List Nat) : (shaL x).length = 32 := bytL_len _ _ _
theorem ripL_len (x : List Nat) : (ripL x).length = 20 := bytL_len _ _ _
theorem shaL_of (g : Nat → Nat) (i n : Nat) : shaL (bytL g i n) = bytL (sha_ (fun k => g (i + k)) n) 0 32 := by
  unfold shaL
  rw [bytL_len, sha_cgr (fun j hj => bytL_at g i n hj)]
theorem ripL_of (g : Nat → Nat) (i n : Nat) : ripL (bytL g i n) = bytL (ripe_ (fun k => g (i + k)) n) 0 20 := by
  unfold ripL
  rw [bytL_len, ripe_cgr (fun j hj => bytL_at g i n hj)]
theorem bytL_pt (D g : Nat → Nat) (q : Nat) : bytL (ks_pt D g 0 q) 0 q = bytL D 0 q := bytL_congr (fun j hj => by rw [ks_pt_in D g 0 q hj, Nat.zero_add])
def hsS (op : Nat) (x : List Nat) : List Nat := if op = 166 then ripL x else if op = 169 then ripL (shaL x) else if op = 170 then shaL (shaL x) else shaL x
theorem hsS_len (op : Nat) (x : List Nat) : (hsS op x).length ≤ 32 := by
  unfold hsS
  (repeat' split) <;> simp only [shaL_len, ripL_len] <;> decide
def htS (op : Nat) (xs ys : List (List Nat)) : Option (List (List Nat) × List (List Nat)) := if xs.length = 0 then none else some (hsS op (xs.getD 0 []) :: xs.drop 1, ys)
abbrev LHt : List Nat := [8, 9, 10, 11, 28, 29, 30, 31, 32, 33, 34, 35]
theorem kO_pts (D : Nat → Nat) (n : Nat) (g : Nat → Nat) (q : Nat) (hg : kO g) : kO (ks_pt (sha_ D n) g 0 q) := fun j => by
  unfold ks_pt
  split
  · exact ks_by_lt _
  · exact hg j
theorem kO_ptr (D : Nat → Nat) (n : Nat) (g : Nat → Nat) (q : Nat) (hg : kO g) : kO (ks_pt (ripe_ D n) g 0 q) := fun j => by
  unfold ks_pt
  split
  · exact ks_by_lt _
  · exact hg j
set_option maxRecDepth 100000 in
set_option maxHeartbeats 2000000 in
theorem c_mc_hashTop {l : Launch} {G : ks_G} {d : Nat} {S : ks_S} {inp cy pa pe pb ops opn cl : Nat} {kT kC sT sC : Int32} (hM : S.2.2 27 = some (mcO inp cy pa pe pb ops opn cl kT kC sT sC)) {xs ys : List (List Nat)} {u : Nat} (hO : st_ok S xs ys u) {op : Nat} {g28 : Nat → Nat} (hop : op = 166 ∨ op = 168 ∨ op = 169 ∨ op = 170) (hH : hsO S) (h28 : S.2.2 28 = some (kB 32 g28)) (hg28 : kO g28) (hK : ks_stOK S) (hu : u + 32 ≤ 24096) : ks_P l G yX7_hashTop mX7_hashTop (d + 4) [.ref 27, .int (nI op)] S (fun z S' => mcR LHt S u 32 (htS op xs ys) z S' ∧ hsO S' ∧ ∃ g2, kO g2 ∧ S'.2.2 28 = some (kB 32 g2)) := by
  have bd := hO.bd
  obtain ⟨ar, fa, fc, f30, f31, f32, hgr, hel⟩ := hO.rows
  refine ks_of (by decide) rfl rfl (Nat.le_of_ble_eq_true rfl) ?_
  show ks_X l G mX7_hashTop (d + 4) 0 [(0, .ref 27), (1, .int (nI op))] [] S _
  refine ks_aload_n dX7_hashTop_0 rfl rfl ?_
  refine ks_getf (T := TX7) (kf := 3) kx_646 rfl in_X7 cl_X7 (by decide) hM rfl dX7_hashTop_1 rfl ?_
  refine ks_getf (T := TX8) (kf := 3) kx_615 rfl in_X8 cl_X8 (by decide) hO.ob rfl dX7_hashTop_4 rfl ?_
  refine ks_if_neN (tgt := 12) (by omega) dX7_hashTop_7 (by decide) rfl (fun h0 => ?_) (fun h0 => ?_)
  · have hk := hel 0 (by omega)
    rw [Nat.sub_zero] at hk
    obtain ⟨hx0, hc0, hb0⟩ := hk
    refine ks_aload_n dX7_hashTop_12 rfl rfl ?_
    refine ks_getf (T := TX7) (kf := 3) kx_646 rfl in_X7 cl_X7 (by decide) hM rfl dX7_hashTop_13 rfl ?_
    refine ks_getf (T := TX8) (kf := 0) kx_609 rfl in_X8 cl_X8 (by decide) hO.ob rfl dX7_hashTop_16 rfl ?_
    refine ks_astore_n dX7_hashTop_19 (by decide) rfl ?_
    refine ks_sub [(2, _), (0, _), (1, _)] rfl ?_
    refine ks_aload_n dX7_hashTop_20 rfl rfl ?_
    refine ks_getf (T := TX7) (kf := 3) kx_646 rfl in_X7 cl_X7 (by decide) hM rfl dX7_hashTop_21 rfl ?_
    refine ks_getf (T := TX8) (kf := 1) kx_611 rfl in_X8 cl_X8 (by decide) hO.ob rfl dX7_hashTop_24 rfl ?_
    refine ks_aload_n dX7_hashTop_27 rfl rfl ?_
    refine ks_getf (T := TX7) (kf := 3) kx_646 rfl in_X7 cl_X7 (by decide) hM rfl dX7_hashTop_28 rfl ?_
    refine ks_getf (T := TX8) (kf := 3) kx_615 rfl in_X8 cl_X8 (by decide) hO.ob rfl dX7_hashTop_31 rfl ?_
    refine ks_iconst (x := nI 1) dX7_hashTop_34 (by decide) rfl ?_
    refine ks_subN (by omega) dX7_hashTop_35 rfl ?_
    refine ks_ialdN (i := xs.length - 1) f31 rfl (by omega) (by decide) dX7_hashTop_36 rfl ?_
    refine ks_istore_n dX7_hashTop_37 (by decide) rfl ?_
    refine ks_sub [(3, _), (0, _), (1, _), (2, _)] rfl ?_
    refine ks_aload_n dX7_hashTop_38 rfl rfl ?_
    refine ks_getf (T := TX7) (kf := 3) kx_646 rfl in_X7 cl_X7 (by decide) hM rfl dX7_hashTop_39 rfl ?_
    refine ks_getf (T := TX8) (kf := 2) kx_613 rfl in_X8 cl_X8 (by decide) hO.ob rfl dX7_hashTop_42 rfl ?_
    refine ks_aload_n dX7_hashTop_45 rfl rfl ?_
    refine ks_getf (T := TX7) (kf := 3) kx_646 rfl in_X7 cl_X7 (by decide) hM rfl dX7_hashTop_46 rfl ?_
    refine ks_getf (T := TX8) (kf := 3) kx_615 rfl in_X8 cl_X8 (by decide) hO.ob rfl dX7_hashTop_49 rfl ?_
    refine ks_iconst (x := nI 1) dX7_hashTop_52 (by decide) rfl ?_
    refine ks_subN (by omega) dX7_hashTop_53 rfl ?_
    refine ks_ialdN (i := xs.length - 1) f32 rfl (by omega) (by decide) dX7_hashTop_54 rfl ?_
    refine ks_istore dX7_hashTop_55 (by decide) rfl ?_
    refine ks_sub [(4, _), (0, _), (1, _), (2, _), (3, _)] rfl ?_
    refine ks_iload_n dX7_hashTop_57 rfl rfl ?_
    refine ks_sipush (x := nI 166) dX7_hashTop_58 (by decide) rfl ?_
    refine ks_icmp_neN (tgt := 83) (by omega) (by decide) dX7_hashTop_61 (by decide) rfl (fun g61 => ?_) (fun g61 => ?_)
    · refine ks_aload_n dX7_hashTop_83 rfl rfl ?_
      refine ks_getf (T := TX7) (kf := 1) kx_644 rfl in_X7 cl_X7 (by decide) hM rfl dX7_hashTop_84 rfl ?_
      refine ks_aload_n dX7_hashTop_87 rfl rfl ?_
      refine ks_iload_n dX7_hashTop_88 rfl rfl ?_
      refine ks_iload dX7_hashTop_89 rfl rfl ?_
      refine ks_aload_n dX7_hashTop_91 rfl rfl ?_
      refine ks_getf (T := TX7) (kf := 0) kx_642 rfl in_X7 cl_X7 (by decide) hM rfl dX7_hashTop_92 rfl ?_
      refine ks_iconst (x := nI 0) dX7_hashTop_95 (by decide) rfl ?_
      refine ks_callV (n := 5) (M' := mX6_sha) (c_shaH (d := d) hH hs_neO f30 hgr (by omega) (by decide) h28 hg28 (by decide) (by decide) hK (by decide) (by decide)) hH.1 cl_X6 rfl kx_1356 kx_881 kx_882 kx_3 kx_883 (by decide +kernel) rfl (by decide) (Nat.le_of_ble_eq_true rfl) rfl dX7_hashTop_96 rfl (fun r1 T1 q1 => ?_)
      obtain ⟨rfl, w1, hH1, e1⟩ := q1
      have hK1 := w1.st hK (by unfold ks_B; decide)
      have m1 := w1.at hM (by decide)
      have O1 := hO.up w1 (by decide)
      have hg1 : kO (ks_pt (sha_ (fun k => ar ((fa (xs.length - 1)) + k)) (fc (xs.length - 1))) g28 0 32) := kO_pts _ _ _ _ hg28
      refine ks_iload_n dX7_hashTop_99 rfl rfl ?_
      refine ks_sipush (x := nI 169) dX7_hashTop_100 (by decide) rfl ?_
      refine ks_icmp_neN (tgt := 128) (by omega) (by decide) dX7_hashTop_103 (by decide) rfl (fun g103 => ?_) (fun g103 => ?_)
      · refine ks_iload_n dX7_hashTop_128 rfl rfl ?_
        refine ks_sipush (x := nI 170) dX7_hashTop_129 (by decide) rfl ?_
        refine ks_icmp_neN (tgt := 154) (by omega) (by decide) dX7_hashTop_132 (by decide) rfl (fun g132 => ?_) (fun g132 => ?_)
        · refine ks_aload_n dX7_hashTop_154 rfl rfl ?_
          refine ks_getf (T := TX7) (kf := 3) kx_646 rfl in_X7 cl_X7 (by decide) m1 rfl dX7_hashTop_155 rfl ?_
          refine ks_iconst (x := nI 1) dX7_hashTop_158 (by decide) rfl ?_
          refine ks_callV (n := 1) (M' := mX8_drop) (c_st_drop (d := d + 3) (c := 1) O1 (by omega)) O1.ob cl_X8 rfl kx_1575 kx_1576 kx_1577 kx_25 kx_1578 (by decide +kernel) rfl (by decide) (Nat.le_of_ble_eq_true rfl) rfl dX7_hashTop_159 rfl (fun r2 T2 q2 => ?_)
          obtain ⟨rfl, u2, o2⟩ := q2
          have m2 := u2.1.at m1 (by decide)
          have e2 := u2.1.at e1 (by decide)
          have hH2 := hs_ok.up hH1 u2.1 (by decide)
          have ld : (xs.drop 1).length = xs.length - 1 := List.length_drop
          refine ks_if_eqZ (tgt := 205) dX7_hashTop_162 (by decide) rfl (fun g162 => ?_) (fun g162 => ?_)
          · exact absurd g162 (by decide)
          · refine ks_aload_n dX7_hashTop_165 rfl rfl ?_
            refine ks_getf (T := TX7) (kf := 3) kx_646 rfl in_X7 cl_X7 (by decide) m2 rfl dX7_hashTop_166 rfl ?_
            refine ks_aload_n dX7_hashTop_169 rfl rfl ?_
            refine ks_getf (T := TX7) (kf := 0) kx_642 rfl in_X7 cl_X7 (by decide) m2 rfl dX7_hashTop_170 rfl ?_
            refine ks_iconst (x := nI 0) dX7_hashTop_173 (by decide) rfl ?_
            refine ks_iload_n dX7_hashTop_174 rfl rfl ?_
            refine ks_sipush (x := nI 166) dX7_hashTop_175 (by decide) rfl ?_
            refine ks_icmp_eqN (tgt := 188) (by omega) (by decide) dX7_hashTop_178 (by decide) rfl (fun g178 => ?_) (fun g178 => ?_)
            · omega
            · refine ks_iload_n dX7_hashTop_181 rfl rfl ?_
              refine ks_sipush (x := nI 169) dX7_hashTop_182 (by decide) rfl ?_
              refine ks_icmp_neN (tgt := 193) (by omega) (by decide) dX7_hashTop_185 (by decide) rfl (fun g185 => ?_) (fun g185 => ?_)
              · refine ks_bipush (x := nI 32) dX7_hashTop_193 (by decide) rfl ?_
                refine ks_callV (n := 3) (M' := mX8_add) (c_st_add (d := d + 2) (s := 0) (c := 32) o2 e2 hg1 (by decide) (by decide) (by omega) (by omega) (by decide)) o2.ob cl_X8 rfl kx_1579 kx_1580 kx_1581 kx_25 kx_1582 (by decide +kernel) rfl (by decide) (Nat.le_of_ble_eq_true rfl) rfl dX7_hashTop_195 rfl (fun r3 T3 q3 => ?_)
                obtain ⟨rfl, u3, o3⟩ := q3
                have m3 := u3.1.at m2 (by decide)
                have e3 := u3.1.at e2 (by decide)
                have hH3 := hs_ok.up hH2 u3.1 (by decide)
                refine ks_if_eqZ (tgt := 205) dX7_hashTop_198 (by decide) rfl (fun g198 => ?_) (fun g198 => ?_)
                · exact absurd g198 (by decide)
                · refine ks_iconst (x := nI 1) dX7_hashTop_201 (by decide) rfl ?_
                  refine ks_goto (tgt := 206) dX7_hashTop_202 (by decide) ?_
                  refine ks_zret rfl rfl dX7_hashTop_206 ?_
                  refine ⟨?_, hH3, _, hg1, e3⟩
                  unfold htS
                  rw [if_neg (by omega)]
                  have eh : hsS op (xs.getD 0 []) = bytL (ks_pt (sha_ (fun k => ar ((fa (xs.length - 1)) + k)) (fc (xs.length - 1))) g28 0 32) 0 32 := by
                    unfold hsS
                    rw [hx0]
                    first
                      | (rw [if_pos (by omega), ripL_of, bytL_pt]; done)
                      | (rw [if_neg (by omega), if_neg (by omega), if_neg (by omega), shaL_of, bytL_pt]; done)
                      | (rw [if_neg (by omega), if_pos (by omega), shaL_of, ← bytL_pt _ g28 32, ripL_of, bytL_pt]; done)
                      | (rw [if_neg (by omega), if_neg (by omega), if_pos (by omega), shaL_of, ← bytL_pt _ g28 32, shaL_of, bytL_pt]; done)
                      | (exfalso; omega)
                  rw [eh]
                  exact ⟨rfl, (((stV.of (L := LHt) w1 (by decide) (by decide)).trans (u2.v (by decide)) (by omega)).trans (u3.v (by decide)) (by omega)), _, by omega, by omega, o3⟩
              · omega
        · refine ks_aload_n dX7_hashTop_135 rfl rfl ?_
          refine ks_getf (T := TX7) (kf := 1) kx_644 rfl in_X7 cl_X7 (by decide) m1 rfl dX7_hashTop_136 rfl ?_
          refine ks_aload_n dX7_hashTop_139 rfl rfl ?_
          refine ks_getf (T := TX7) (kf := 0) kx_642 rfl in_X7 cl_X7 (by decide) m1 rfl dX7_hashTop_140 rfl ?_
          refine ks_iconst (x := nI 0) dX7_hashTop_143 (by decide) rfl ?_
          refine ks_bipush (x := nI 32) dX7_hashTop_144 (by decide) rfl ?_
          refine ks_aload_n dX7_hashTop_146 rfl rfl ?_
          refine ks_getf (T := TX7) (kf := 0) kx_642 rfl in_X7 cl_X7 (by decide) m1 rfl dX7_hashTop_147 rfl ?_
          refine ks_iconst (x := nI 0) dX7_hashTop_150 (by decide) rfl ?_
          refine ks_callV (n := 5) (M' := mX6_sha) (c_shaH (d := d) hH1 hs_neO e1 hg1 (by omega) (by decide) e1 hg1 (by decide) (by decide) hK1 (by decide) (by decide)) hH1.1 cl_X6 rfl kx_1356 kx_881 kx_882 kx_3 kx_883 (by decide +kernel) rfl (by decide) (Nat.le_of_ble_eq_true rfl) rfl dX7_hashTop_151 rfl (fun r2 T2 q2 => ?_)
          obtain ⟨rfl, w2, hH2, e2⟩ := q2
          have hK2 := w2.st hK1 (by unfold ks_B; decide)
          have m2 := w2.at m1 (by decide)
          have O2 := O1.up w2 (by decide)
          have hg2 : kO (ks_pt (sha_ (fun k => (ks_pt (sha_ (fun k => ar ((fa (xs.length - 1)) + k)) (fc (xs.length - 1))) g28 0 32) (0 + k)) 32) (ks_pt (sha_ (fun k => ar ((fa (xs.length - 1)) + k)) (fc (xs.length - 1))) g28 0 32) 0 32) := kO_pts _ _ _ _ hg1
          refine ks_aload_n dX7_hashTop_154 rfl rfl ?_
          refine ks_getf (T := TX7) (kf := 3) kx_646 rfl in_X7 cl_X7 (by decide) m2 rfl dX7_hashTop_155 rfl ?_
          refine ks_iconst (x := nI 1) dX7_hashTop_158 (by decide) rfl ?_
          refine ks_callV (n := 1) (M' := mX8_drop) (c_st_drop (d := d + 3) (c := 1) O2 (by omega)) O2.ob cl_X8 rfl kx_1575 kx_1576 kx_1577 kx_25 kx_1578 (by decide +kernel) rfl (by decide) (Nat.le_of_ble_eq_true rfl) rfl dX7_hashTop_159 rfl (fun r3 T3 q3 => ?_)
          obtain ⟨rfl, u3, o3⟩ := q3
          have m3 := u3.1.at m2 (by decide)
          have e3 := u3.1.at e2 (by decide)
          have hH3 := hs_ok.up hH2 u3.1 (by decide)
          have ld : (xs.drop 1).length = xs.length - 1 := List.length_drop
          refine ks_if_eqZ (tgt := 205) dX7_hashTop_162 (by decide) rfl (fun g162 => ?_) (fun g162 => ?_)
          · exact absurd g162 (by decide)
          · refine ks_aload_n dX7_hashTop_165 rfl rfl ?_
            refine ks_getf (T := TX7) (kf := 3) kx_646 rfl in_X7 cl_X7 (by decide) m3 rfl dX7_hashTop_166 rfl ?_
            refine ks_aload_n dX7_hashTop_169 rfl rfl ?_
            refine ks_getf (T := TX7) (kf := 0) kx_642 rfl in_X7 cl_X7 (by decide) m3 rfl dX7_hashTop_170 rfl ?_
            refine ks_iconst (x := nI 0) dX7_hashTop_173 (by decide) rfl ?_
            refine ks_iload_n dX7_hashTop_174 rfl rfl ?_
            refine ks_sipush (x := nI 166) dX7_hashTop_175 (by decide) rfl ?_
            refine ks_icmp_eqN (tgt := 188) (by omega) (by decide) dX7_hashTop_178 (by decide) rfl (fun g178 => ?_) (fun g178 => ?_)
            · omega
            · refine ks_iload_n dX7_hashTop_181 rfl rfl ?_
              refine ks_sipush (x := nI 169) dX7_hashTop_182 (by decide) rfl ?_
              refine ks_icmp_neN (tgt := 193) (by omega) (by decide) dX7_hashTop_185 (by decide) rfl (fun g185 => ?_) (fun g185 => ?_)
              · refine ks_bipush (x := nI 32) dX7_hashTop_193 (by decide) rfl ?_
                refine ks_callV (n := 3) (M' := mX8_add) (c_st_add (d := d + 2) (s := 0) (c := 32) o3 e3 hg2 (by decide) (by decide) (by omega) (by omega) (by decide)) o3.ob cl_X8 rfl kx_1579 kx_1580 kx_1581 kx_25 kx_1582 (by decide +kernel) rfl (by decide) (Nat.le_of_ble_eq_true rfl) rfl dX7_hashTop_195 rfl (fun r4 T4 q4 => ?_)
                obtain ⟨rfl, u4, o4⟩ := q4
                have m4 := u4.1.at m3 (by decide)
                have e4 := u4.1.at e3 (by decide)
                have hH4 := hs_ok.up hH3 u4.1 (by decide)
                refine ks_if_eqZ (tgt := 205) dX7_hashTop_198 (by decide) rfl (fun g198 => ?_) (fun g198 => ?_)
                · exact absurd g198 (by decide)
                · refine ks_iconst (x := nI 1) dX7_hashTop_201 (by decide) rfl ?_
                  refine ks_goto (tgt := 206) dX7_hashTop_202 (by decide) ?_
                  refine ks_zret rfl rfl dX7_hashTop_206 ?_
                  refine ⟨?_, hH4, _, hg2, e4⟩
                  unfold htS
                  rw [if_neg (by omega)]
                  have eh : hsS op (xs.getD 0 []) = bytL (ks_pt (sha_ (fun k => (ks_pt (sha_ (fun k => ar ((fa (xs.length - 1)) + k)) (fc (xs.length - 1))) g28 0 32) (0 + k)) 32) (ks_pt (sha_ (fun k => ar ((fa (xs.length - 1)) + k)) (fc (xs.length - 1))) g28 0 32) 0 32) 0 32 := by
                    unfold hsS
                    rw [hx0]
                    first
                      | (rw [if_pos (by omega), ripL_of, bytL_pt]; done)
                      | (rw [if_neg (by omega), if_neg (by omega), if_neg (by omega), shaL_of, bytL_pt]; done)
                      | (rw [if_neg (by omega), if_pos (by omega), shaL_of, ← bytL_pt _ g28 32, ripL_of, bytL_pt]; done)
                      | (rw [if_neg (by omega), if_neg (by omega), if_pos (by omega), shaL_of, ← bytL_pt _ g28 32, shaL_of, bytL_pt]; done)
                      | (exfalso; omega)
                  rw [eh]
                  exact ⟨rfl, ((((stV.of (L := LHt) w1 (by decide) (by decide)).trans (stV.of w2 (by decide) (by decide)) (Nat.le_refl _)).trans (u3.v (by decide)) (by omega)).trans (u4.v (by decide)) (by omega)), _, by omega, by omega, o4⟩
              · omega
      · refine ks_aload_n dX7_hashTop_106 rfl rfl ?_
        refine ks_getf (T := TX7) (kf := 1) kx_644 rfl in_X7 cl_X7 (by decide) m1 rfl dX7_hashTop_107 rfl ?_
        refine ks_aload_n dX7_hashTop_110 rfl rfl ?_
        refine ks_getf (T := TX7) (kf := 0) kx_642 rfl in_X7 cl_X7 (by decide) m1 rfl dX7_hashTop_111 rfl ?_
        refine ks_iconst (x := nI 0) dX7_hashTop_114 (by decide) rfl ?_
        refine ks_bipush (x := nI 32) dX7_hashTop_115 (by decide) rfl ?_
        refine ks_aload_n dX7_hashTop_117 rfl rfl ?_
        refine ks_getf (T := TX7) (kf := 0) kx_642 rfl in_X7 cl_X7 (by decide) m1 rfl dX7_hashTop_118 rfl ?_
        refine ks_iconst (x := nI 0) dX7_hashTop_121 (by decide) rfl ?_
        refine ks_callV (n := 5) (M' := mX6_ripe) (c_ripeH (d := d) hH1 hs_neO e1 hg1 (by omega) (by decide) e1 hg1 (by decide) (by decide) hK1 (by decide) (by decide)) hH1.1 cl_X6 rfl kx_1652 kx_1223 kx_1224 kx_3 kx_1225 (by decide +kernel) rfl (by decide) (Nat.le_of_ble_eq_true rfl) rfl dX7_hashTop_122 rfl (fun r2 T2 q2 => ?_)
        obtain ⟨rfl, w2, hH2, e2⟩ := q2
        have hK2 := w2.st hK1 (by unfold ks_B; decide)
        have m2 := w2.at m1 (by decide)
        have O2 := O1.up w2 (by decide)
        have hg2 : kO (ks_pt (ripe_ (fun k => (ks_pt (sha_ (fun k => ar ((fa (xs.length - 1)) + k)) (fc (xs.length - 1))) g28 0 32) (0 + k)) 32) (ks_pt (sha_ (fun k => ar ((fa (xs.length - 1)) + k)) (fc (xs.length - 1))) g28 0 32) 0 20) := kO_ptr _ _ _ _ hg1
        refine ks_goto (tgt := 154) dX7_hashTop_125 (by decide) ?_
        refine ks_aload_n dX7_hashTop_154 rfl rfl ?_
        refine ks_getf (T := TX7) (kf := 3) kx_646 rfl in_X7 cl_X7 (by decide) m2 rfl dX7_hashTop_155 rfl ?_
        refine ks_iconst (x := nI 1) dX7_hashTop_158 (by decide) rfl ?_
        refine ks_callV (n := 1) (M' := mX8_drop) (c_st_drop (d := d + 3) (c := 1) O2 (by omega)) O2.ob cl_X8 rfl kx_1575 kx_1576 kx_1577 kx_25 kx_1578 (by decide +kernel) rfl (by decide) (Nat.le_of_ble_eq_true rfl) rfl dX7_hashTop_159 rfl (fun r3 T3 q3 => ?_)
        obtain ⟨rfl, u3, o3⟩ := q3
        have m3 := u3.1.at m2 (by decide)
        have e3 := u3.1.at e2 (by decide)
        have hH3 := hs_ok.up hH2 u3.1 (by decide)
        have ld : (xs.drop 1).length = xs.length - 1 := List.length_drop
        refine ks_if_eqZ (tgt := 205) dX7_hashTop_162 (by decide) rfl (fun g162 => ?_) (fun g162 => ?_)
        · exact absurd g162 (by decide)
        · refine ks_aload_n dX7_hashTop_165 rfl rfl ?_
          refine ks_getf (T := TX7) (kf := 3) kx_646 rfl in_X7 cl_X7 (by decide) m3 rfl dX7_hashTop_166 rfl ?_
          refine ks_aload_n dX7_hashTop_169 rfl rfl ?_
          refine ks_getf (T := TX7) (kf := 0) kx_642 rfl in_X7 cl_X7 (by decide) m3 rfl dX7_hashTop_170 rfl ?_
          refine ks_iconst (x := nI 0) dX7_hashTop_173 (by decide) rfl ?_
          refine ks_iload_n dX7_hashTop_174 rfl rfl ?_
          refine ks_sipush (x := nI 166) dX7_hashTop_175 (by decide) rfl ?_
          refine ks_icmp_eqN (tgt := 188) (by omega) (by decide) dX7_hashTop_178 (by decide) rfl (fun g178 => ?_) (fun g178 => ?_)
          · omega
          · refine ks_iload_n dX7_hashTop_181 rfl rfl ?_
            refine ks_sipush (x := nI 169) dX7_hashTop_182 (by decide) rfl ?_
            refine ks_icmp_neN (tgt := 193) (by omega) (by decide) dX7_hashTop_185 (by decide) rfl (fun g185 => ?_) (fun g185 => ?_)
            · omega
            · refine ks_bipush (x := nI 20) dX7_hashTop_188 (by decide) rfl ?_
              refine ks_goto (tgt := 195) dX7_hashTop_190 (by decide) ?_
              refine ks_callV (n := 3) (M' := mX8_add) (c_st_add (d := d + 2) (s := 0) (c := 20) o3 e3 hg2 (by decide) (by decide) (by omega) (by omega) (by decide)) o3.ob cl_X8 rfl kx_1579 kx_1580 kx_1581 kx_25 kx_1582 (by decide +kernel) rfl (by decide) (Nat.le_of_ble_eq_true rfl) rfl dX7_hashTop_195 rfl (fun r4 T4 q4 => ?_)
              obtain ⟨rfl, u4, o4⟩ := q4
              have m4 := u4.1.at m3 (by decide)
              have e4 := u4.1.at e3 (by decide)
              have hH4 := hs_ok.up hH3 u4.1 (by decide)
              refine ks_if_eqZ (tgt := 205) dX7_hashTop_198 (by decide) rfl (fun g198 => ?_) (fun g198 => ?_)
              · exact absurd g198 (by decide)
              · refine ks_iconst (x := nI 1) dX7_hashTop_201 (by decide) rfl ?_
                refine ks_goto (tgt := 206) dX7_hashTop_202 (by decide) ?_
                refine ks_zret rfl rfl dX7_hashTop_206 ?_
                refine ⟨?_, hH4, _, hg2, e4⟩
                unfold htS
                rw [if_neg (by omega)]
                have eh : hsS op (xs.getD 0 []) = bytL (ks_pt (ripe_ (fun k => (ks_pt (sha_ (fun k => ar ((fa (xs.length - 1)) + k)) (fc (xs.length - 1))) g28 0 32) (0 + k)) 32) (ks_pt (sha_ (fun k => ar ((fa (xs.length - 1)) + k)) (fc (xs.length - 1))) g28 0 32) 0 20) 0 20 := by
                  unfold hsS
                  rw [hx0]
                  first
                    | (rw [if_pos (by omega), ripL_of, bytL_pt]; done)
                    | (rw [if_neg (by omega), if_neg (by omega), if_neg (by omega), shaL_of, bytL_pt]; done)
                    | (rw [if_neg (by omega), if_pos (by omega), shaL_of, ← bytL_pt _ g28 32, ripL_of, bytL_pt]; done)
                    | (rw [if_neg (by omega), if_neg (by omega), if_pos (by omega), shaL_of, ← bytL_pt _ g28 32, shaL_of, bytL_pt]; done)
                    | (exfalso; omega)
                rw [eh]
                exact ⟨rfl, ((((stV.of (L := LHt) w1 (by decide) (by decide)).trans (stV.of w2 (by decide) (by decide)) (Nat.le_refl _)).trans (u3.v (by decide)) (by omega)).trans (u4.v (by decide)) (by omega)), _, by omega, by omega, o4⟩
    · refine ks_aload_n dX7_hashTop_64 rfl rfl ?_
      refine ks_getf (T := TX7) (kf := 1) kx_644 rfl in_X7 cl_X7 (by decide) hM rfl dX7_hashTop_65 rfl ?_
      refine ks_aload_n dX7_hashTop_68 rfl rfl ?_
      refine ks_iload_n dX7_hashTop_69 rfl rfl ?_
      refine ks_iload dX7_hashTop_70 rfl rfl ?_
      refine ks_aload_n dX7_hashTop_72 rfl rfl ?_
      refine ks_getf (T := TX7) (kf := 0) kx_642 rfl in_X7 cl_X7 (by decide) hM rfl dX7_hashTop_73 rfl ?_
      refine ks_iconst (x := nI 0) dX7_hashTop_76 (by decide) rfl ?_
      refine ks_callV (n := 5) (M' := mX6_ripe) (c_ripeH (d := d) hH hs_neO f30 hgr (by omega) (by decide) h28 hg28 (by decide) (by decide) hK (by decide) (by decide)) hH.1 cl_X6 rfl kx_1652 kx_1223 kx_1224 kx_3 kx_1225 (by decide +kernel) rfl (by decide) (Nat.le_of_ble_eq_true rfl) rfl dX7_hashTop_77 rfl (fun r1 T1 q1 => ?_)
      obtain ⟨rfl, w1, hH1, e1⟩ := q1
      have hK1 := w1.st hK (by unfold ks_B; decide)
      have m1 := w1.at hM (by decide)
      have O1 := hO.up w1 (by decide)
      have hg1 : kO (ks_pt (ripe_ (fun k => ar ((fa (xs.length - 1)) + k)) (fc (xs.length - 1))) g28 0 20) := kO_ptr _ _ _ _ hg28
      refine ks_goto (tgt := 99) dX7_hashTop_80 (by decide) ?_
      refine ks_iload_n dX7_hashTop_99 rfl rfl ?_
      refine ks_sipush (x := nI 169) dX7_hashTop_100 (by decide) rfl ?_
      refine ks_icmp_neN (tgt := 128) (by omega) (by decide) dX7_hashTop_103 (by decide) rfl (fun g103 => ?_) (fun g103 => ?_)
      · refine ks_iload_n dX7_hashTop_128 rfl rfl ?_
        refine ks_sipush (x := nI 170) dX7_hashTop_129 (by decide) rfl ?_
        refine ks_icmp_neN (tgt := 154) (by omega) (by decide) dX7_hashTop_132 (by decide) rfl (fun g132 => ?_) (fun g132 => ?_)
        · refine ks_aload_n dX7_hashTop_154 rfl rfl ?_
          refine ks_getf (T := TX7) (kf := 3) kx_646 rfl in_X7 cl_X7 (by decide) m1 rfl dX7_hashTop_155 rfl ?_
          refine ks_iconst (x := nI 1) dX7_hashTop_158 (by decide) rfl ?_
          refine ks_callV (n := 1) (M' := mX8_drop) (c_st_drop (d := d + 3) (c := 1) O1 (by omega)) O1.ob cl_X8 rfl kx_1575 kx_1576 kx_1577 kx_25 kx_1578 (by decide +kernel) rfl (by decide) (Nat.le_of_ble_eq_true rfl) rfl dX7_hashTop_159 rfl (fun r2 T2 q2 => ?_)
          obtain ⟨rfl, u2, o2⟩ := q2
          have m2 := u2.1.at m1 (by decide)
          have e2 := u2.1.at e1 (by decide)
          have hH2 := hs_ok.up hH1 u2.1 (by decide)
          have ld : (xs.drop 1).length = xs.length - 1 := List.length_drop
          refine ks_if_eqZ (tgt := 205) dX7_hashTop_162 (by decide) rfl (fun g162 => ?_) (fun g162 => ?_)
          · exact absurd g162 (by decide)
          · refine ks_aload_n dX7_hashTop_165 rfl rfl ?_
            refine ks_getf (T := TX7) (kf := 3) kx_646 rfl in_X7 cl_X7 (by decide) m2 rfl dX7_hashTop_166 rfl ?_
            refine ks_aload_n dX7_hashTop_169 rfl rfl ?_
            refine ks_getf (T := TX7) (kf := 0) kx_642 rfl in_X7 cl_X7 (by decide) m2 rfl dX7_hashTop_170 rfl ?_
            refine ks_iconst (x := nI 0) dX7_hashTop_173 (by decide) rfl ?_
            refine ks_iload_n dX7_hashTop_174 rfl rfl ?_
            refine ks_sipush (x := nI 166) dX7_hashTop_175 (by decide) rfl ?_
            refine ks_icmp_eqN (tgt := 188) (by omega) (by decide) dX7_hashTop_178 (by decide) rfl (fun g178 => ?_) (fun g178 => ?_)
            · refine ks_bipush (x := nI 20) dX7_hashTop_188 (by decide) rfl ?_
              refine ks_goto (tgt := 195) dX7_hashTop_190 (by decide) ?_
              refine ks_callV (n := 3) (M' := mX8_add) (c_st_add (d := d + 2) (s := 0) (c := 20) o2 e2 hg1 (by decide) (by decide) (by omega) (by omega) (by decide)) o2.ob cl_X8 rfl kx_1579 kx_1580 kx_1581 kx_25 kx_1582 (by decide +kernel) rfl (by decide) (Nat.le_of_ble_eq_true rfl) rfl dX7_hashTop_195 rfl (fun r3 T3 q3 => ?_)
              obtain ⟨rfl, u3, o3⟩ := q3
              have m3 := u3.1.at m2 (by decide)
              have e3 := u3.1.at e2 (by decide)
              have hH3 := hs_ok.up hH2 u3.1 (by decide)
              refine ks_if_eqZ (tgt := 205) dX7_hashTop_198 (by decide) rfl (fun g198 => ?_) (fun g198 => ?_)
              · exact absurd g198 (by decide)
              · refine ks_iconst (x := nI 1) dX7_hashTop_201 (by decide) rfl ?_
                refine ks_goto (tgt := 206) dX7_hashTop_202 (by decide) ?_
                refine ks_zret rfl rfl dX7_hashTop_206 ?_
                refine ⟨?_, hH3, _, hg1, e3⟩
                unfold htS
                rw [if_neg (by omega)]
                have eh : hsS op (xs.getD 0 []) = bytL (ks_pt (ripe_ (fun k => ar ((fa (xs.length - 1)) + k)) (fc (xs.length - 1))) g28 0 20) 0 20 := by
                  unfold hsS
                  rw [hx0]
                  first
                    | (rw [if_pos (by omega), ripL_of, bytL_pt]; done)
                    | (rw [if_neg (by omega), if_neg (by omega), if_neg (by omega), shaL_of, bytL_pt]; done)
                    | (rw [if_neg (by omega), if_pos (by omega), shaL_of, ← bytL_pt _ g28 32, ripL_of, bytL_pt]; done)
                    | (rw [if_neg (by omega), if_neg (by omega), if_pos (by omega), shaL_of, ← bytL_pt _ g28 32, shaL_of, bytL_pt]; done)
                    | (exfalso; omega)
                rw [eh]
                exact ⟨rfl, (((stV.of (L := LHt) w1 (by decide) (by decide)).trans (u2.v (by decide)) (by omega)).trans (u3.v (by decide)) (by omega)), _, by omega, by omega, o3⟩
            · omega
        · refine ks_aload_n dX7_hashTop_135 rfl rfl ?_
          refine ks_getf (T := TX7) (kf := 1) kx_644 rfl in_X7 cl_X7 (by decide) m1 rfl dX7_hashTop_136 rfl ?_
          refine ks_aload_n dX7_hashTop_139 rfl rfl ?_
          refine ks_getf (T := TX7) (kf := 0) kx_642 rfl in_X7 cl_X7 (by decide) m1 rfl dX7_hashTop_140 rfl ?_
          refine ks_iconst (x := nI 0) dX7_hashTop_143 (by decide) rfl ?_
          refine ks_bipush (x := nI 32) dX7_hashTop_144 (by decide) rfl ?_
          refine ks_aload_n dX7_hashTop_146 rfl rfl ?_
          refine ks_getf (T := TX7) (kf := 0) kx_642 rfl in_X7 cl_X7 (by decide) m1 rfl dX7_hashTop_147 rfl ?_
          refine ks_iconst (x := nI 0) dX7_hashTop_150 (by decide) rfl ?_
          refine ks_callV (n := 5) (M' := mX6_sha) (c_shaH (d := d) hH1 hs_neO e1 hg1 (by omega) (by decide) e1 hg1 (by decide) (by decide) hK1 (by decide) (by decide)) hH1.1 cl_X6 rfl kx_1356 kx_881 kx_882 kx_3 kx_883 (by decide +kernel) rfl (by decide) (Nat.le_of_ble_eq_true rfl) rfl dX7_hashTop_151 rfl (fun r2 T2 q2 => ?_)
          obtain ⟨rfl, w2, hH2, e2⟩ := q2
          have hK2 := w2.st hK1 (by unfold ks_B; decide)
          have m2 := w2.at m1 (by decide)
          have O2 := O1.up w2 (by decide)
          have hg2 : kO (ks_pt (sha_ (fun k => (ks_pt (ripe_ (fun k => ar ((fa (xs.length - 1)) + k)) (fc (xs.length - 1))) g28 0 20) (0 + k)) 32) (ks_pt (ripe_ (fun k => ar ((fa (xs.length - 1)) + k)) (fc (xs.length - 1))) g28 0 20) 0 32) := kO_pts _ _ _ _ hg1
          refine ks_aload_n dX7_hashTop_154 rfl rfl ?_
          refine ks_getf (T := TX7) (kf := 3) kx_646 rfl in_X7 cl_X7 (by decide) m2 rfl dX7_hashTop_155 rfl ?_
          refine ks_iconst (x := nI 1) dX7_hashTop_158 (by decide) rfl ?_
          refine ks_callV (n := 1) (M' := mX8_drop) (c_st_drop (d := d + 3) (c := 1) O2 (by omega)) O2.ob cl_X8 rfl kx_1575 kx_1576 kx_1577 kx_25 kx_1578 (by decide +kernel) rfl (by decide) (Nat.le_of_ble_eq_true rfl) rfl dX7_hashTop_159 rfl (fun r3 T3 q3 => ?_)
          obtain ⟨rfl, u3, o3⟩ := q3
          have m3 := u3.1.at m2 (by decide)
          have e3 := u3.1.at e2 (by decide)
          have hH3 := hs_ok.up hH2 u3.1 (by decide)
          have ld : (xs.drop 1).length = xs.length - 1 := List.length_drop
          refine ks_if_eqZ (tgt := 205) dX7_hashTop_162 (by decide) rfl (fun g162 => ?_) (fun g162 => ?_)
          · exact absurd g162 (by decide)
          · refine ks_aload_n dX7_hashTop_165 rfl rfl ?_
            refine ks_getf (T := TX7) (kf := 3) kx_646 rfl in_X7 cl_X7 (by decide) m3 rfl dX7_hashTop_166 rfl ?_
            refine ks_aload_n dX7_hashTop_169 rfl rfl ?_
            refine ks_getf (T := TX7) (kf := 0) kx_642 rfl in_X7 cl_X7 (by decide) m3 rfl dX7_hashTop_170 rfl ?_
            refine ks_iconst (x := nI 0) dX7_hashTop_173 (by decide) rfl ?_
            refine ks_iload_n dX7_hashTop_174 rfl rfl ?_
            refine ks_sipush (x := nI 166) dX7_hashTop_175 (by decide) rfl ?_
            refine ks_icmp_eqN (tgt := 188) (by omega) (by decide) dX7_hashTop_178 (by decide) rfl (fun g178 => ?_) (fun g178 => ?_)
            · refine ks_bipush (x := nI 20) dX7_hashTop_188 (by decide) rfl ?_
              refine ks_goto (tgt := 195) dX7_hashTop_190 (by decide) ?_
              refine ks_callV (n := 3) (M' := mX8_add) (c_st_add (d := d + 2) (s := 0) (c := 20) o3 e3 hg2 (by decide) (by decide) (by omega) (by omega) (by decide)) o3.ob cl_X8 rfl kx_1579 kx_1580 kx_1581 kx_25 kx_1582 (by decide +kernel) rfl (by decide) (Nat.le_of_ble_eq_true rfl) rfl dX7_hashTop_195 rfl (fun r4 T4 q4 => ?_)
              obtain ⟨rfl, u4, o4⟩ := q4
              have m4 := u4.1.at m3 (by decide)
              have e4 := u4.1.at e3 (by decide)
              have hH4 := hs_ok.up hH3 u4.1 (by decide)
              refine ks_if_eqZ (tgt := 205) dX7_hashTop_198 (by decide) rfl (fun g198 => ?_) (fun g198 => ?_)
              · exact absurd g198 (by decide)
              · refine ks_iconst (x := nI 1) dX7_hashTop_201 (by decide) rfl ?_
                refine ks_goto (tgt := 206) dX7_hashTop_202 (by decide) ?_
                refine ks_zret rfl rfl dX7_hashTop_206 ?_
                refine ⟨?_, hH4, _, hg2, e4⟩
                unfold htS
                rw [if_neg (by omega)]
                have eh : hsS op (xs.getD 0 []) = bytL (ks_pt (sha_ (fun k => (ks_pt (ripe_ (fun k => ar ((fa (xs.length - 1)) + k)) (fc (xs.length - 1))) g28 0 20) (0 + k)) 32) (ks_pt (ripe_ (fun k => ar ((fa (xs.length - 1)) + k)) (fc (xs.length - 1))) g28 0 20) 0 32) 0 20 := by
                  unfold hsS
                  rw [hx0]
                  first
                    | (rw [if_pos (by omega), ripL_of, bytL_pt]; done)
                    | (rw [if_neg (by omega), if_neg (by omega), if_neg (by omega), shaL_of, bytL_pt]; done)
                    | (rw [if_neg (by omega), if_pos (by omega), shaL_of, ← bytL_pt _ g28 32, ripL_of, bytL_pt]; done)
                    | (rw [if_neg (by omega), if_neg (by omega), if_pos (by omega), shaL_of, ← bytL_pt _ g28 32, shaL_of, bytL_pt]; done)
                    | (exfalso; omega)
                rw [eh]
                exact ⟨rfl, ((((stV.of (L := LHt) w1 (by decide) (by decide)).trans (stV.of w2 (by decide) (by decide)) (Nat.le_refl _)).trans (u3.v (by decide)) (by omega)).trans (u4.v (by decide)) (by omega)), _, by omega, by omega, o4⟩
            · omega
      · refine ks_aload_n dX7_hashTop_106 rfl rfl ?_
        refine ks_getf (T := TX7) (kf := 1) kx_644 rfl in_X7 cl_X7 (by decide) m1 rfl dX7_hashTop_107 rfl ?_
        refine ks_aload_n dX7_hashTop_110 rfl rfl ?_
        refine ks_getf (T := TX7) (kf := 0) kx_642 rfl in_X7 cl_X7 (by decide) m1 rfl dX7_hashTop_111 rfl ?_
        refine ks_iconst (x := nI 0) dX7_hashTop_114 (by decide) rfl ?_
        refine ks_bipush (x := nI 32) dX7_hashTop_115 (by decide) rfl ?_
        refine ks_aload_n dX7_hashTop_117 rfl rfl ?_
        refine ks_getf (T := TX7) (kf := 0) kx_642 rfl in_X7 cl_X7 (by decide) m1 rfl dX7_hashTop_118 rfl ?_
        refine ks_iconst (x := nI 0) dX7_hashTop_121 (by decide) rfl ?_
        refine ks_callV (n := 5) (M' := mX6_ripe) (c_ripeH (d := d) hH1 hs_neO e1 hg1 (by omega) (by decide) e1 hg1 (by decide) (by decide) hK1 (by decide) (by decide)) hH1.1 cl_X6 rfl kx_1652 kx_1223 kx_1224 kx_3 kx_1225 (by decide +kernel) rfl (by decide) (Nat.le_of_ble_eq_true rfl) rfl dX7_hashTop_122 rfl (fun r2 T2 q2 => ?_)
        obtain ⟨rfl, w2, hH2, e2⟩ := q2
        have hK2 := w2.st hK1 (by unfold ks_B; decide)
        have m2 := w2.at m1 (by decide)
        have O2 := O1.up w2 (by decide)
        have hg2 : kO (ks_pt (ripe_ (fun k => (ks_pt (ripe_ (fun k => ar ((fa (xs.length - 1)) + k)) (fc (xs.length - 1))) g28 0 20) (0 + k)) 32) (ks_pt (ripe_ (fun k => ar ((fa (xs.length - 1)) + k)) (fc (xs.length - 1))) g28 0 20) 0 20) := kO_ptr _ _ _ _ hg1
        refine ks_goto (tgt := 154) dX7_hashTop_125 (by decide) ?_
        refine ks_aload_n dX7_hashTop_154 rfl rfl ?_
        refine ks_getf (T := TX7) (kf := 3) kx_646 rfl in_X7 cl_X7 (by decide) m2 rfl dX7_hashTop_155 rfl ?_
        refine ks_iconst (x := nI 1) dX7_hashTop_158 (by decide) rfl ?_
        refine ks_callV (n := 1) (M' := mX8_drop) (c_st_drop (d := d + 3) (c := 1) O2 (by omega)) O2.ob cl_X8 rfl kx_1575 kx_1576 kx_1577 kx_25 kx_1578 (by decide +kernel) rfl (by decide) (Nat.le_of_ble_eq_true rfl) rfl dX7_hashTop_159 rfl (fun r3 T3 q3 => ?_)
        obtain ⟨rfl, u3, o3⟩ := q3
        have m3 := u3.1.at m2 (by decide)
        have e3 := u3.1.at e2 (by decide)
        have hH3 := hs_ok.up hH2 u3.1 (by decide)
        have ld : (xs.drop 1).length = xs.length - 1 := List.length_drop
        refine ks_if_eqZ (tgt := 205) dX7_hashTop_162 (by decide) rfl (fun g162 => ?_) (fun g162 => ?_)
        · exact absurd g162 (by decide)
        · refine ks_aload_n dX7_hashTop_165 rfl rfl ?_
          refine ks_getf (T := TX7) (kf := 3) kx_646 rfl in_X7 cl_X7 (by decide) m3 rfl dX7_hashTop_166 rfl ?_
          refine ks_aload_n dX7_hashTop_169 rfl rfl ?_
          refine ks_getf (T := TX7) (kf := 0) kx_642 rfl in_X7 cl_X7 (by decide) m3 rfl dX7_hashTop_170 rfl ?_
          refine ks_iconst (x := nI 0) dX7_hashTop_173 (by decide) rfl ?_
          refine ks_iload_n dX7_hashTop_174 rfl rfl ?_
          refine ks_sipush (x := nI 166) dX7_hashTop_175 (by decide) rfl ?_
          refine ks_icmp_eqN (tgt := 188) (by omega) (by decide) dX7_hashTop_178 (by decide) rfl (fun g178 => ?_) (fun g178 => ?_)
          · refine ks_bipush (x := nI 20) dX7_hashTop_188 (by decide) rfl ?_
            refine ks_goto (tgt := 195) dX7_hashTop_190 (by decide) ?_
            refine ks_callV (n := 3) (M' := mX8_add) (c_st_add (d := d + 2) (s := 0) (c := 20) o3 e3 hg2 (by decide) (by decide) (by omega) (by omega) (by decide)) o3.ob cl_X8 rfl kx_1579 kx_1580 kx_1581 kx_25 kx_1582 (by decide +kernel) rfl (by decide) (Nat.le_of_ble_eq_true rfl) rfl dX7_hashTop_195 rfl (fun r4 T4 q4 => ?_)
            obtain ⟨rfl, u4, o4⟩ := q4
            have m4 := u4.1.at m3 (by decide)
            have e4 := u4.1.at e3 (by decide)
            have hH4 := hs_ok.up hH3 u4.1 (by decide)
            refine ks_if_eqZ (tgt := 205) dX7_hashTop_198 (by decide) rfl (fun g198 => ?_) (fun g198 => ?_)
            · exact absurd g198 (by decide)
            · refine ks_iconst (x := nI 1) dX7_hashTop_201 (by decide) rfl ?_
              refine ks_goto (tgt := 206) dX7_hashTop_202 (by decide) ?_
              refine ks_zret rfl rfl dX7_hashTop_206 ?_
              refine ⟨?_, hH4, _, hg2, e4⟩
              unfold htS
              rw [if_neg (by omega)]
              have eh : hsS op (xs.getD 0 []) = bytL (ks_pt (ripe_ (fun k => (ks_pt (ripe_ (fun k => ar ((fa (xs.length - 1)) + k)) (fc (xs.length - 1))) g28 0 20) (0 + k)) 32) (ks_pt (ripe_ (fun k => ar ((fa (xs.length - 1)) + k)) (fc (xs.length - 1))) g28 0 20) 0 20) 0 20 := by
                unfold hsS
                rw [hx0]
                first
                  | (rw [if_pos (by omega), ripL_of, bytL_pt]; done)
                  | (rw [if_neg (by omega), if_neg (by omega), if_neg (by omega), shaL_of, bytL_pt]; done)
                  | (rw [if_neg (by omega), if_pos (by omega), shaL_of, ← bytL_pt _ g28 32, ripL_of, bytL_pt]; done)
                  | (rw [if_neg (by omega), if_neg (by omega), if_pos (by omega), shaL_of, ← bytL_pt _ g28 32, shaL_of, bytL_pt]; done)
                  | (exfalso; omega)
              rw [eh]
              exact ⟨rfl, ((((stV.of (L := LHt) w1 (by decide) (by decide)).trans (stV.of w2 (by decide) (by decide)) (Nat.le_refl _)).trans (u3.v (by decide)) (by omega)).trans (u4.v (by decide)) (by omega)), _, by omega, by omega, o4⟩
          · omega
  · refine ks_iconst (x := nI 0) dX7_hashTop_10 (by decide) rfl ?_
    refine ks_zret rfl rfl dX7_hashTop_11 ?_
    refine ⟨?_, hH, g28, hg28, h28⟩
    unfold htS
    rw [if_pos (by omega)]
    exact ⟨rfl, ks_up.rf _ _, xs, ys, u, hO⟩

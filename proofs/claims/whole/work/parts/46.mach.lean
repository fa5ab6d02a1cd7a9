/-! MACHINE (27): what is allowed, numbers, comparisons -/
abbrev mcO (inp cy pa pe pb ops opn cl : Nat) (kT kC sT sC : Int32) : ks_E := .inr (10, [.ref 28, .ref 7, .ref 14, .ref 29, .ref 36, .ref 37, .ref 39, .ref 20, .int (nI inp), .ref cy, .int (nI pa), .int (nI pe), .int (nI pb), .int (nI ops), .int (nI opn), .int (nI cl), .int kT, .int kC, .int sT, .int sC])
theorem st_ok.ob {S : ks_S} {xs ys : List (List Nat)} {u : Nat} (h : st_ok S xs ys u) : S.2.2 29 = some (.inr (11, [.ref 30, .ref 31, .ref 32, .int (nI xs.length), .int (nI u), .int (nI ys.length), .ref 33, .ref 34, .ref 35])) := by
  obtain ⟨n, o, ar, dt, fa, fc, oa, oc, hX, hx, hy⟩ := h
  rw [hx, hy, stE_len, stE_len]
  exact hX.1
theorem st_ok.bd {S : ks_S} {xs ys : List (List Nat)} {u : Nat} (h : st_ok S xs ys u) : xs.length ≤ 1004 ∧ ys.length ≤ 1004 ∧ u ≤ 24096 := by
  obtain ⟨n, o, ar, dt, fa, fc, oa, oc, hX, hx, hy⟩ := h
  rw [hx, hy, stE_len, stE_len]
  exact ⟨hX.2.2.2.2.2.2.2.2.2.1, hX.2.2.2.2.2.2.2.2.2.2.2.1, hX.2.2.2.2.2.2.2.2.2.2.1⟩
/-- the rows behind the elements -/
theorem st_ok.rows {S : ks_S} {xs ys : List (List Nat)} {u : Nat} (h : st_ok S xs ys u) : ∃ ar fa fc, S.2.2 30 = some (kB 24096 ar) ∧ S.2.2 31 = some (kN 1004 fa) ∧ S.2.2 32 = some (kN 1004 fc) ∧ kO ar ∧ (∀ k, k < xs.length → xs.getD k [] = bytL ar (fa (xs.length - 1 - k)) (fc (xs.length - 1 - k)) ∧ fc (xs.length - 1 - k) = (xs.getD k []).length ∧ fa (xs.length - 1 - k) + fc (xs.length - 1 - k) ≤ u) := by
  obtain ⟨n, o, ar, dt, fa, fc, oa, oc, hX, hx, hy⟩ := h
  refine ⟨ar, fa, fc, hX.2.1, hX.2.2.1, hX.2.2.2.1, hX.2.2.2.2.2.2.2.1, ?_⟩
  rw [hx, stE_len]
  intro k hk
  have e : (stE ar fa fc n).getD k [] = bytL ar (fa (n - 1 - k)) (fc (n - 1 - k)) := by
    rw [List.getD_eq_getElem?_getD, stE_at ar fa fc n k hk]
    rfl
  rw [e, bytL_len]
  exact ⟨rfl, rfl, hX.2.2.2.2.2.2.2.2.2.2.2.2.1 _ (by omega)⟩
theorem gD {xs : List (List Nat)} {c : Nat} (h : c < xs.length) : xs[c]? = some (xs.getD c []) := by
  rw [List.getD_eq_getElem?_getD, List.getElem?_eq_getElem h]
  rfl
def badO (op : Nat) : Bool := decide ((126 ≤ op ∧ op ≤ 129) ∨ (131 ≤ op ∧ op ≤ 134) ∨ op = 141 ∨ op = 142 ∨ (149 ≤ op ∧ op ≤ 153) ∨ op = 101 ∨ op = 102)
def opsN (op ops : Nat) : Nat := if 96 < op then ops + 1 else ops
def alwO (op n ops : Nat) : Bool := if op ≤ 78 then decide (n ≤ 520) else decide (opsN op ops ≤ 201) && !badO op
set_option maxRecDepth 100000 in
set_option maxHeartbeats 2000000 in
theorem c_isAllowed {l : Launch} {G : ks_G} {d : Nat} {S : ks_S} {inp cy pa pe pb ops opn cl : Nat} {kT kC sT sC : Int32} (hM : S.2.2 27 = some (mcO inp cy pa pe pb ops opn cl kT kC sT sC)) {op n : Nat} (hop : op < 256) (hn : n < 2 ^ 20) (ho : ops < 2 ^ 20) : ks_P l G yX7_isAllowed mX7_isAllowed d [.ref 27, .int (nI op), .int (nI n)] S (fun z S' => z = some (.int (ks_bo (alwO op n ops))) ∧ ks_up S S' [27] ∧ S'.2.2 27 = some (mcO inp cy pa pe pb (opsN op ops) opn cl kT kC sT sC)) := by
  have tail : ¬ op ≤ 78 → ∀ (b : Bool), b = badO op → ∀ S1 : ks_S, ks_up S S1 [27] → S1.2.2 27 = some (mcO inp cy pa pe pb (opsN op ops) opn cl kT kC sT sC) → ks_X l G mX7_isAllowed d 107 [(0, .ref 27)] [.int (ks_bo b)] S1 (fun z S' => z = some (.int (ks_bo (alwO op n ops))) ∧ ks_up S S' [27] ∧ S'.2.2 27 = some (mcO inp cy pa pe pb (opsN op ops) opn cl kT kC sT sC)) := by
    intro h78 b hb S1 hu hM1
    have ho2 : opsN op ops ≤ ops + 1 := by unfold opsN; split <;> omega
    unfold alwO
    rw [if_neg h78, ← hb]
    refine ks_istore_n dX7_isAllowed_107 (by decide) rfl ?_
    refine ks_sub [(3, _), (0, _)] rfl ?_
    refine ks_aload_n dX7_isAllowed_108 rfl rfl ?_
    refine ks_getf (T := TX7) (kf := 13) kx_656 rfl in_X7 cl_X7 (by decide) hM1 rfl dX7_isAllowed_109 rfl ?_
    refine ks_sipush (x := nI 201) dX7_isAllowed_112 (by decide) rfl ?_
    refine ks_icmp_gtN (tgt := 126) (by omega) (by decide) dX7_isAllowed_115 (by decide) rfl (fun hc115 => ?_) (fun hc115 => ?_)
    · refine ks_iconst (x := nI 0) dX7_isAllowed_126 (by decide) rfl ?_
      refine ks_zret rfl rfl dX7_isAllowed_127 ?_
      refine ⟨?_, hu, hM1⟩
      rw [decide_eq_false (by omega)]
      rfl
    · refine ks_iload_n dX7_isAllowed_118 rfl rfl ?_
      refine ks_if_neZ (tgt := 126) dX7_isAllowed_119 (by decide) rfl (fun hc119 => ?_) (fun hc119 => ?_)
      · refine ks_iconst (x := nI 0) dX7_isAllowed_126 (by decide) rfl ?_
        refine ks_zret rfl rfl dX7_isAllowed_127 ?_
        refine ⟨?_, hu, hM1⟩
        rw [decide_eq_true (by omega), hc119]
        rfl
      · refine ks_iconst (x := nI 1) dX7_isAllowed_122 (by decide) rfl ?_
        refine ks_goto (tgt := 127) dX7_isAllowed_123 (by decide) ?_
        refine ks_zret rfl rfl dX7_isAllowed_127 ?_
        refine ⟨?_, hu, hM1⟩
        rw [decide_eq_true (by omega), hc119]
        rfl
  refine ks_of (by decide) rfl rfl (Nat.le_of_ble_eq_true rfl) ?_
  show ks_X l G mX7_isAllowed d 0 [(0, .ref 27), (1, .int (nI op)), (2, .int (nI n))] [] S _
  refine ks_iload_n dX7_isAllowed_0 rfl rfl ?_
  refine ks_bipush (x := nI 78) dX7_isAllowed_1 (by decide) rfl ?_
  refine ks_icmp_gtN (tgt := 19) (by omega) (by decide) dX7_isAllowed_3 (by decide) rfl (fun h78 => ?_) (fun h78 => ?_)
  · refine ks_iload_n dX7_isAllowed_19 rfl rfl ?_
    refine ks_bipush (x := nI 96) dX7_isAllowed_20 (by decide) rfl ?_
    refine ks_icmp_leN (tgt := 35) (by omega) (by decide) dX7_isAllowed_22 (by decide) rfl (fun h96 => ?_) (fun h96 => ?_)
    · have eN : opsN op ops = ops := by unfold opsN; rw [if_neg (by omega)]
      refine ks_iload_n dX7_isAllowed_35 rfl rfl ?_
      refine ks_bipush (x := nI 126) dX7_isAllowed_36 (by decide) rfl ?_
      refine ks_icmp_ltN (tgt := 48) (by omega) (by decide) dX7_isAllowed_38 (by decide) rfl (fun hc38 => ?_) (fun hc38 => ?_)
      · refine ks_iload_n dX7_isAllowed_48 rfl rfl ?_
        refine ks_sipush (x := nI 131) dX7_isAllowed_49 (by decide) rfl ?_
        refine ks_icmp_ltN (tgt := 62) (by omega) (by decide) dX7_isAllowed_52 (by decide) rfl (fun hc52 => ?_) (fun hc52 => ?_)
        · refine ks_iload_n dX7_isAllowed_62 rfl rfl ?_
          refine ks_sipush (x := nI 141) dX7_isAllowed_63 (by decide) rfl ?_
          refine ks_icmp_eqN (tgt := 102) (by omega) (by decide) dX7_isAllowed_66 (by decide) rfl (fun hc66 => ?_) (fun hc66 => ?_)
          · refine ks_iconst (x := nI 1) dX7_isAllowed_102 (by decide) rfl ?_
            refine ks_goto (tgt := 107) dX7_isAllowed_103 (by decide) ?_
            refine ks_sub [(0, _)] rfl ?_
            exact tail (by omega) true (by unfold badO; first | exact (decide_eq_true (by omega)).symm | exact (decide_eq_false (by omega)).symm) _ (ks_up.rf _ _) (by rw [eN]; exact hM)
          · refine ks_iload_n dX7_isAllowed_69 rfl rfl ?_
            refine ks_sipush (x := nI 142) dX7_isAllowed_70 (by decide) rfl ?_
            refine ks_icmp_eqN (tgt := 102) (by omega) (by decide) dX7_isAllowed_73 (by decide) rfl (fun hc73 => ?_) (fun hc73 => ?_)
            · refine ks_iconst (x := nI 1) dX7_isAllowed_102 (by decide) rfl ?_
              refine ks_goto (tgt := 107) dX7_isAllowed_103 (by decide) ?_
              refine ks_sub [(0, _)] rfl ?_
              exact tail (by omega) true (by unfold badO; first | exact (decide_eq_true (by omega)).symm | exact (decide_eq_false (by omega)).symm) _ (ks_up.rf _ _) (by rw [eN]; exact hM)
            · refine ks_iload_n dX7_isAllowed_76 rfl rfl ?_
              refine ks_sipush (x := nI 149) dX7_isAllowed_77 (by decide) rfl ?_
              refine ks_icmp_ltN (tgt := 90) (by omega) (by decide) dX7_isAllowed_80 (by decide) rfl (fun hc80 => ?_) (fun hc80 => ?_)
              · refine ks_iload_n dX7_isAllowed_90 rfl rfl ?_
                refine ks_bipush (x := nI 101) dX7_isAllowed_91 (by decide) rfl ?_
                refine ks_icmp_eqN (tgt := 102) (by omega) (by decide) dX7_isAllowed_93 (by decide) rfl (fun hc93 => ?_) (fun hc93 => ?_)
                · refine ks_iconst (x := nI 1) dX7_isAllowed_102 (by decide) rfl ?_
                  refine ks_goto (tgt := 107) dX7_isAllowed_103 (by decide) ?_
                  refine ks_sub [(0, _)] rfl ?_
                  exact tail (by omega) true (by unfold badO; first | exact (decide_eq_true (by omega)).symm | exact (decide_eq_false (by omega)).symm) _ (ks_up.rf _ _) (by rw [eN]; exact hM)
                · refine ks_iload_n dX7_isAllowed_96 rfl rfl ?_
                  refine ks_bipush (x := nI 102) dX7_isAllowed_97 (by decide) rfl ?_
                  refine ks_icmp_neN (tgt := 106) (by omega) (by decide) dX7_isAllowed_99 (by decide) rfl (fun hc99 => ?_) (fun hc99 => ?_)
                  · refine ks_iconst (x := nI 0) dX7_isAllowed_106 (by decide) rfl ?_
                    refine ks_sub [(0, _)] rfl ?_
                    exact tail (by omega) false (by unfold badO; first | exact (decide_eq_true (by omega)).symm | exact (decide_eq_false (by omega)).symm) _ (ks_up.rf _ _) (by rw [eN]; exact hM)
                  · refine ks_iconst (x := nI 1) dX7_isAllowed_102 (by decide) rfl ?_
                    refine ks_goto (tgt := 107) dX7_isAllowed_103 (by decide) ?_
                    refine ks_sub [(0, _)] rfl ?_
                    exact tail (by omega) true (by unfold badO; first | exact (decide_eq_true (by omega)).symm | exact (decide_eq_false (by omega)).symm) _ (ks_up.rf _ _) (by rw [eN]; exact hM)
              · refine ks_iload_n dX7_isAllowed_83 rfl rfl ?_
                refine ks_sipush (x := nI 153) dX7_isAllowed_84 (by decide) rfl ?_
                refine ks_icmp_leN (tgt := 102) (by omega) (by decide) dX7_isAllowed_87 (by decide) rfl (fun hc87 => ?_) (fun hc87 => ?_)
                · refine ks_iconst (x := nI 1) dX7_isAllowed_102 (by decide) rfl ?_
                  refine ks_goto (tgt := 107) dX7_isAllowed_103 (by decide) ?_
                  refine ks_sub [(0, _)] rfl ?_
                  exact tail (by omega) true (by unfold badO; first | exact (decide_eq_true (by omega)).symm | exact (decide_eq_false (by omega)).symm) _ (ks_up.rf _ _) (by rw [eN]; exact hM)
                · refine ks_iload_n dX7_isAllowed_90 rfl rfl ?_
                  refine ks_bipush (x := nI 101) dX7_isAllowed_91 (by decide) rfl ?_
                  refine ks_icmp_eqN (tgt := 102) (by omega) (by decide) dX7_isAllowed_93 (by decide) rfl (fun hc93 => ?_) (fun hc93 => ?_)
                  · refine ks_iconst (x := nI 1) dX7_isAllowed_102 (by decide) rfl ?_
                    refine ks_goto (tgt := 107) dX7_isAllowed_103 (by decide) ?_
                    refine ks_sub [(0, _)] rfl ?_
                    exact tail (by omega) true (by unfold badO; first | exact (decide_eq_true (by omega)).symm | exact (decide_eq_false (by omega)).symm) _ (ks_up.rf _ _) (by rw [eN]; exact hM)
                  · refine ks_iload_n dX7_isAllowed_96 rfl rfl ?_
                    refine ks_bipush (x := nI 102) dX7_isAllowed_97 (by decide) rfl ?_
                    refine ks_icmp_neN (tgt := 106) (by omega) (by decide) dX7_isAllowed_99 (by decide) rfl (fun hc99 => ?_) (fun hc99 => ?_)
                    · refine ks_iconst (x := nI 0) dX7_isAllowed_106 (by decide) rfl ?_
                      refine ks_sub [(0, _)] rfl ?_
                      exact tail (by omega) false (by unfold badO; first | exact (decide_eq_true (by omega)).symm | exact (decide_eq_false (by omega)).symm) _ (ks_up.rf _ _) (by rw [eN]; exact hM)
                    · refine ks_iconst (x := nI 1) dX7_isAllowed_102 (by decide) rfl ?_
                      refine ks_goto (tgt := 107) dX7_isAllowed_103 (by decide) ?_
                      refine ks_sub [(0, _)] rfl ?_
                      exact tail (by omega) true (by unfold badO; first | exact (decide_eq_true (by omega)).symm | exact (decide_eq_false (by omega)).symm) _ (ks_up.rf _ _) (by rw [eN]; exact hM)
        · refine ks_iload_n dX7_isAllowed_55 rfl rfl ?_
          refine ks_sipush (x := nI 134) dX7_isAllowed_56 (by decide) rfl ?_
          refine ks_icmp_leN (tgt := 102) (by omega) (by decide) dX7_isAllowed_59 (by decide) rfl (fun hc59 => ?_) (fun hc59 => ?_)
          · refine ks_iconst (x := nI 1) dX7_isAllowed_102 (by decide) rfl ?_
            refine ks_goto (tgt := 107) dX7_isAllowed_103 (by decide) ?_
            refine ks_sub [(0, _)] rfl ?_
            exact tail (by omega) true (by unfold badO; first | exact (decide_eq_true (by omega)).symm | exact (decide_eq_false (by omega)).symm) _ (ks_up.rf _ _) (by rw [eN]; exact hM)
          · refine ks_iload_n dX7_isAllowed_62 rfl rfl ?_
            refine ks_sipush (x := nI 141) dX7_isAllowed_63 (by decide) rfl ?_
            refine ks_icmp_eqN (tgt := 102) (by omega) (by decide) dX7_isAllowed_66 (by decide) rfl (fun hc66 => ?_) (fun hc66 => ?_)
            · refine ks_iconst (x := nI 1) dX7_isAllowed_102 (by decide) rfl ?_
              refine ks_goto (tgt := 107) dX7_isAllowed_103 (by decide) ?_
              refine ks_sub [(0, _)] rfl ?_
              exact tail (by omega) true (by unfold badO; first | exact (decide_eq_true (by omega)).symm | exact (decide_eq_false (by omega)).symm) _ (ks_up.rf _ _) (by rw [eN]; exact hM)
            · refine ks_iload_n dX7_isAllowed_69 rfl rfl ?_
              refine ks_sipush (x := nI 142) dX7_isAllowed_70 (by decide) rfl ?_
              refine ks_icmp_eqN (tgt := 102) (by omega) (by decide) dX7_isAllowed_73 (by decide) rfl (fun hc73 => ?_) (fun hc73 => ?_)
              · refine ks_iconst (x := nI 1) dX7_isAllowed_102 (by decide) rfl ?_
                refine ks_goto (tgt := 107) dX7_isAllowed_103 (by decide) ?_
                refine ks_sub [(0, _)] rfl ?_
                exact tail (by omega) true (by unfold badO; first | exact (decide_eq_true (by omega)).symm | exact (decide_eq_false (by omega)).symm) _ (ks_up.rf _ _) (by rw [eN]; exact hM)
              · refine ks_iload_n dX7_isAllowed_76 rfl rfl ?_
                refine ks_sipush (x := nI 149) dX7_isAllowed_77 (by decide) rfl ?_
                refine ks_icmp_ltN (tgt := 90) (by omega) (by decide) dX7_isAllowed_80 (by decide) rfl (fun hc80 => ?_) (fun hc80 => ?_)
                · refine ks_iload_n dX7_isAllowed_90 rfl rfl ?_
                  refine ks_bipush (x := nI 101) dX7_isAllowed_91 (by decide) rfl ?_
                  refine ks_icmp_eqN (tgt := 102) (by omega) (by decide) dX7_isAllowed_93 (by decide) rfl (fun hc93 => ?_) (fun hc93 => ?_)
                  · refine ks_iconst (x := nI 1) dX7_isAllowed_102 (by decide) rfl ?_
                    refine ks_goto (tgt := 107) dX7_isAllowed_103 (by decide) ?_
                    refine ks_sub [(0, _)] rfl ?_
                    exact tail (by omega) true (by unfold badO; first | exact (decide_eq_true (by omega)).symm | exact (decide_eq_false (by omega)).symm) _ (ks_up.rf _ _) (by rw [eN]; exact hM)
                  · refine ks_iload_n dX7_isAllowed_96 rfl rfl ?_
                    refine ks_bipush (x := nI 102) dX7_isAllowed_97 (by decide) rfl ?_
                    refine ks_icmp_neN (tgt := 106) (by omega) (by decide) dX7_isAllowed_99 (by decide) rfl (fun hc99 => ?_) (fun hc99 => ?_)
                    · refine ks_iconst (x := nI 0) dX7_isAllowed_106 (by decide) rfl ?_
                      refine ks_sub [(0, _)] rfl ?_
                      exact tail (by omega) false (by unfold badO; first | exact (decide_eq_true (by omega)).symm | exact (decide_eq_false (by omega)).symm) _ (ks_up.rf _ _) (by rw [eN]; exact hM)
                    · refine ks_iconst (x := nI 1) dX7_isAllowed_102 (by decide) rfl ?_
                      refine ks_goto (tgt := 107) dX7_isAllowed_103 (by decide) ?_
                      refine ks_sub [(0, _)] rfl ?_
                      exact tail (by omega) true (by unfold badO; first | exact (decide_eq_true (by omega)).symm | exact (decide_eq_false (by omega)).symm) _ (ks_up.rf _ _) (by rw [eN]; exact hM)
                · refine ks_iload_n dX7_isAllowed_83 rfl rfl ?_
                  refine ks_sipush (x := nI 153) dX7_isAllowed_84 (by decide) rfl ?_
                  refine ks_icmp_leN (tgt := 102) (by omega) (by decide) dX7_isAllowed_87 (by decide) rfl (fun hc87 => ?_) (fun hc87 => ?_)
                  · refine ks_iconst (x := nI 1) dX7_isAllowed_102 (by decide) rfl ?_
                    refine ks_goto (tgt := 107) dX7_isAllowed_103 (by decide) ?_
                    refine ks_sub [(0, _)] rfl ?_
                    exact tail (by omega) true (by unfold badO; first | exact (decide_eq_true (by omega)).symm | exact (decide_eq_false (by omega)).symm) _ (ks_up.rf _ _) (by rw [eN]; exact hM)
                  · refine ks_iload_n dX7_isAllowed_90 rfl rfl ?_
                    refine ks_bipush (x := nI 101) dX7_isAllowed_91 (by decide) rfl ?_
                    refine ks_icmp_eqN (tgt := 102) (by omega) (by decide) dX7_isAllowed_93 (by decide) rfl (fun hc93 => ?_) (fun hc93 => ?_)
                    · refine ks_iconst (x := nI 1) dX7_isAllowed_102 (by decide) rfl ?_
                      refine ks_goto (tgt := 107) dX7_isAllowed_103 (by decide) ?_
                      refine ks_sub [(0, _)] rfl ?_
                      exact tail (by omega) true (by unfold badO; first | exact (decide_eq_true (by omega)).symm | exact (decide_eq_false (by omega)).symm) _ (ks_up.rf _ _) (by rw [eN]; exact hM)
                    · refine ks_iload_n dX7_isAllowed_96 rfl rfl ?_
                      refine ks_bipush (x := nI 102) dX7_isAllowed_97 (by decide) rfl ?_
                      refine ks_icmp_neN (tgt := 106) (by omega) (by decide) dX7_isAllowed_99 (by decide) rfl (fun hc99 => ?_) (fun hc99 => ?_)
                      · refine ks_iconst (x := nI 0) dX7_isAllowed_106 (by decide) rfl ?_
                        refine ks_sub [(0, _)] rfl ?_
                        exact tail (by omega) false (by unfold badO; first | exact (decide_eq_true (by omega)).symm | exact (decide_eq_false (by omega)).symm) _ (ks_up.rf _ _) (by rw [eN]; exact hM)
                      · refine ks_iconst (x := nI 1) dX7_isAllowed_102 (by decide) rfl ?_
                        refine ks_goto (tgt := 107) dX7_isAllowed_103 (by decide) ?_
                        refine ks_sub [(0, _)] rfl ?_
                        exact tail (by omega) true (by unfold badO; first | exact (decide_eq_true (by omega)).symm | exact (decide_eq_false (by omega)).symm) _ (ks_up.rf _ _) (by rw [eN]; exact hM)
      · refine ks_iload_n dX7_isAllowed_41 rfl rfl ?_
        refine ks_sipush (x := nI 129) dX7_isAllowed_42 (by decide) rfl ?_
        refine ks_icmp_leN (tgt := 102) (by omega) (by decide) dX7_isAllowed_45 (by decide) rfl (fun hc45 => ?_) (fun hc45 => ?_)
        · refine ks_iconst (x := nI 1) dX7_isAllowed_102 (by decide) rfl ?_
          refine ks_goto (tgt := 107) dX7_isAllowed_103 (by decide) ?_
          refine ks_sub [(0, _)] rfl ?_
          exact tail (by omega) true (by unfold badO; first | exact (decide_eq_true (by omega)).symm | exact (decide_eq_false (by omega)).symm) _ (ks_up.rf _ _) (by rw [eN]; exact hM)
        · refine ks_iload_n dX7_isAllowed_48 rfl rfl ?_
          refine ks_sipush (x := nI 131) dX7_isAllowed_49 (by decide) rfl ?_
          refine ks_icmp_ltN (tgt := 62) (by omega) (by decide) dX7_isAllowed_52 (by decide) rfl (fun hc52 => ?_) (fun hc52 => ?_)
          · refine ks_iload_n dX7_isAllowed_62 rfl rfl ?_
            refine ks_sipush (x := nI 141) dX7_isAllowed_63 (by decide) rfl ?_
            refine ks_icmp_eqN (tgt := 102) (by omega) (by decide) dX7_isAllowed_66 (by decide) rfl (fun hc66 => ?_) (fun hc66 => ?_)
            · refine ks_iconst (x := nI 1) dX7_isAllowed_102 (by decide) rfl ?_
              refine ks_goto (tgt := 107) dX7_isAllowed_103 (by decide) ?_
              refine ks_sub [(0, _)] rfl ?_
              exact tail (by omega) true (by unfold badO; first | exact (decide_eq_true (by omega)).symm | exact (decide_eq_false (by omega)).symm) _ (ks_up.rf _ _) (by rw [eN]; exact hM)
            · refine ks_iload_n dX7_isAllowed_69 rfl rfl ?_
              refine ks_sipush (x := nI 142) dX7_isAllowed_70 (by decide) rfl ?_
              refine ks_icmp_eqN (tgt := 102) (by omega) (by decide) dX7_isAllowed_73 (by decide) rfl (fun hc73 => ?_) (fun hc73 => ?_)
              · refine ks_iconst (x := nI 1) dX7_isAllowed_102 (by decide) rfl ?_
                refine ks_goto (tgt := 107) dX7_isAllowed_103 (by decide) ?_
                refine ks_sub [(0, _)] rfl ?_
                exact tail (by omega) true (by unfold badO; first | exact (decide_eq_true (by omega)).symm | exact (decide_eq_false (by omega)).symm) _ (ks_up.rf _ _) (by rw [eN]; exact hM)
              · refine ks_iload_n dX7_isAllowed_76 rfl rfl ?_
                refine ks_sipush (x := nI 149) dX7_isAllowed_77 (by decide) rfl ?_
                refine ks_icmp_ltN (tgt := 90) (by omega) (by decide) dX7_isAllowed_80 (by decide) rfl (fun hc80 => ?_) (fun hc80 => ?_)
                · refine ks_iload_n dX7_isAllowed_90 rfl rfl ?_
                  refine ks_bipush (x := nI 101) dX7_isAllowed_91 (by decide) rfl ?_
                  refine ks_icmp_eqN (tgt := 102) (by omega) (by decide) dX7_isAllowed_93 (by decide) rfl (fun hc93 => ?_) (fun hc93 => ?_)
                  · refine ks_iconst (x := nI 1) dX7_isAllowed_102 (by decide) rfl ?_
                    refine ks_goto (tgt := 107) dX7_isAllowed_103 (by decide) ?_
                    refine ks_sub [(0, _)] rfl ?_
                    exact tail (by omega) true (by unfold badO; first | exact (decide_eq_true (by omega)).symm | exact (decide_eq_false (by omega)).symm) _ (ks_up.rf _ _) (by rw [eN]; exact hM)
                  · refine ks_iload_n dX7_isAllowed_96 rfl rfl ?_
                    refine ks_bipush (x := nI 102) dX7_isAllowed_97 (by decide) rfl ?_
                    refine ks_icmp_neN (tgt := 106) (by omega) (by decide) dX7_isAllowed_99 (by decide) rfl (fun hc99 => ?_) (fun hc99 => ?_)
                    · refine ks_iconst (x := nI 0) dX7_isAllowed_106 (by decide) rfl ?_
                      refine ks_sub [(0, _)] rfl ?_
                      exact tail (by omega) false (by unfold badO; first | exact (decide_eq_true (by omega)).symm | exact (decide_eq_false (by omega)).symm) _ (ks_up.rf _ _) (by rw [eN]; exact hM)
                    · refine ks_iconst (x := nI 1) dX7_isAllowed_102 (by decide) rfl ?_
                      refine ks_goto (tgt := 107) dX7_isAllowed_103 (by decide) ?_
                      refine ks_sub [(0, _)] rfl ?_
                      exact tail (by omega) true (by unfold badO; first | exact (decide_eq_true (by omega)).symm | exact (decide_eq_false (by omega)).symm) _ (ks_up.rf _ _) (by rw [eN]; exact hM)
                · refine ks_iload_n dX7_isAllowed_83 rfl rfl ?_
                  refine ks_sipush (x := nI 153) dX7_isAllowed_84 (by decide) rfl ?_
                  refine ks_icmp_leN (tgt := 102) (by omega) (by decide) dX7_isAllowed_87 (by decide) rfl (fun hc87 => ?_) (fun hc87 => ?_)
                  · refine ks_iconst (x := nI 1) dX7_isAllowed_102 (by decide) rfl ?_
                    refine ks_goto (tgt := 107) dX7_isAllowed_103 (by decide) ?_
                    refine ks_sub [(0, _)] rfl ?_
                    exact tail (by omega) true (by unfold badO; first | exact (decide_eq_true (by omega)).symm | exact (decide_eq_false (by omega)).symm) _ (ks_up.rf _ _) (by rw [eN]; exact hM)
                  · refine ks_iload_n dX7_isAllowed_90 rfl rfl ?_
                    refine ks_bipush (x := nI 101) dX7_isAllowed_91 (by decide) rfl ?_
                    refine ks_icmp_eqN (tgt := 102) (by omega) (by decide) dX7_isAllowed_93 (by decide) rfl (fun hc93 => ?_) (fun hc93 => ?_)
                    · refine ks_iconst (x := nI 1) dX7_isAllowed_102 (by decide) rfl ?_
                      refine ks_goto (tgt := 107) dX7_isAllowed_103 (by decide) ?_
                      refine ks_sub [(0, _)] rfl ?_
                      exact tail (by omega) true (by unfold badO; first | exact (decide_eq_true (by omega)).symm | exact (decide_eq_false (by omega)).symm) _ (ks_up.rf _ _) (by rw [eN]; exact hM)
                    · refine ks_iload_n dX7_isAllowed_96 rfl rfl ?_
                      refine ks_bipush (x := nI 102) dX7_isAllowed_97 (by decide) rfl ?_
                      refine ks_icmp_neN (tgt := 106) (by omega) (by decide) dX7_isAllowed_99 (by decide) rfl (fun hc99 => ?_) (fun hc99 => ?_)
                      · refine ks_iconst (x := nI 0) dX7_isAllowed_106 (by decide) rfl ?_
                        refine ks_sub [(0, _)] rfl ?_
                        exact tail (by omega) false (by unfold badO; first | exact (decide_eq_true (by omega)).symm | exact (decide_eq_false (by omega)).symm) _ (ks_up.rf _ _) (by rw [eN]; exact hM)
                      · refine ks_iconst (x := nI 1) dX7_isAllowed_102 (by decide) rfl ?_
                        refine ks_goto (tgt := 107) dX7_isAllowed_103 (by decide) ?_
                        refine ks_sub [(0, _)] rfl ?_
                        exact tail (by omega) true (by unfold badO; first | exact (decide_eq_true (by omega)).symm | exact (decide_eq_false (by omega)).symm) _ (ks_up.rf _ _) (by rw [eN]; exact hM)
          · refine ks_iload_n dX7_isAllowed_55 rfl rfl ?_
            refine ks_sipush (x := nI 134) dX7_isAllowed_56 (by decide) rfl ?_
            refine ks_icmp_leN (tgt := 102) (by omega) (by decide) dX7_isAllowed_59 (by decide) rfl (fun hc59 => ?_) (fun hc59 => ?_)
            · refine ks_iconst (x := nI 1) dX7_isAllowed_102 (by decide) rfl ?_
              refine ks_goto (tgt := 107) dX7_isAllowed_103 (by decide) ?_
              refine ks_sub [(0, _)] rfl ?_
              exact tail (by omega) true (by unfold badO; first | exact (decide_eq_true (by omega)).symm | exact (decide_eq_false (by omega)).symm) _ (ks_up.rf _ _) (by rw [eN]; exact hM)
            · refine ks_iload_n dX7_isAllowed_62 rfl rfl ?_
              refine ks_sipush (x := nI 141) dX7_isAllowed_63 (by decide) rfl ?_
              refine ks_icmp_eqN (tgt := 102) (by omega) (by decide) dX7_isAllowed_66 (by decide) rfl (fun hc66 => ?_) (fun hc66 => ?_)
              · refine ks_iconst (x := nI 1) dX7_isAllowed_102 (by decide) rfl ?_
                refine ks_goto (tgt := 107) dX7_isAllowed_103 (by decide) ?_
                refine ks_sub [(0, _)] rfl ?_
                exact tail (by omega) true (by unfold badO; first | exact (decide_eq_true (by omega)).symm | exact (decide_eq_false (by omega)).symm) _ (ks_up.rf _ _) (by rw [eN]; exact hM)
              · refine ks_iload_n dX7_isAllowed_69 rfl rfl ?_
                refine ks_sipush (x := nI 142) dX7_isAllowed_70 (by decide) rfl ?_
                refine ks_icmp_eqN (tgt := 102) (by omega) (by decide) dX7_isAllowed_73 (by decide) rfl (fun hc73 => ?_) (fun hc73 => ?_)
                · refine ks_iconst (x := nI 1) dX7_isAllowed_102 (by decide) rfl ?_
                  refine ks_goto (tgt := 107) dX7_isAllowed_103 (by decide) ?_
                  refine ks_sub [(0, _)] rfl ?_
                  exact tail (by omega) true (by unfold badO; first | exact (decide_eq_true (by omega)).symm | exact (decide_eq_false (by omega)).symm) _ (ks_up.rf _ _) (by rw [eN]; exact hM)
                · refine ks_iload_n dX7_isAllowed_76 rfl rfl ?_
                  refine ks_sipush (x := nI 149) dX7_isAllowed_77 (by decide) rfl ?_
                  refine ks_icmp_ltN (tgt := 90) (by omega) (by decide) dX7_isAllowed_80 (by decide) rfl (fun hc80 => ?_) (fun hc80 => ?_)
                  · refine ks_iload_n dX7_isAllowed_90 rfl rfl ?_
                    refine ks_bipush (x := nI 101) dX7_isAllowed_91 (by decide) rfl ?_
                    refine ks_icmp_eqN (tgt := 102) (by omega) (by decide) dX7_isAllowed_93 (by decide) rfl (fun hc93 => ?_) (fun hc93 => ?_)
                    · refine ks_iconst (x := nI 1) dX7_isAllowed_102 (by decide) rfl ?_
                      refine ks_goto (tgt := 107) dX7_isAllowed_103 (by decide) ?_
                      refine ks_sub [(0, _)] rfl ?_
                      exact tail (by omega) true (by unfold badO; first | exact (decide_eq_true (by omega)).symm | exact (decide_eq_false (by omega)).symm) _ (ks_up.rf _ _) (by rw [eN]; exact hM)
                    · refine ks_iload_n dX7_isAllowed_96 rfl rfl ?_
                      refine ks_bipush (x := nI 102) dX7_isAllowed_97 (by decide) rfl ?_
                      refine ks_icmp_neN (tgt := 106) (by omega) (by decide) dX7_isAllowed_99 (by decide) rfl (fun hc99 => ?_) (fun hc99 => ?_)
                      · refine ks_iconst (x := nI 0) dX7_isAllowed_106 (by decide) rfl ?_
                        refine ks_sub [(0, _)] rfl ?_
                        exact tail (by omega) false (by unfold badO; first | exact (decide_eq_true (by omega)).symm | exact (decide_eq_false (by omega)).symm) _ (ks_up.rf _ _) (by rw [eN]; exact hM)
                      · refine ks_iconst (x := nI 1) dX7_isAllowed_102 (by decide) rfl ?_
                        refine ks_goto (tgt := 107) dX7_isAllowed_103 (by decide) ?_
                        refine ks_sub [(0, _)] rfl ?_
                        exact tail (by omega) true (by unfold badO; first | exact (decide_eq_true (by omega)).symm | exact (decide_eq_false (by omega)).symm) _ (ks_up.rf _ _) (by rw [eN]; exact hM)
                  · refine ks_iload_n dX7_isAllowed_83 rfl rfl ?_
                    refine ks_sipush (x := nI 153) dX7_isAllowed_84 (by decide) rfl ?_
                    refine ks_icmp_leN (tgt := 102) (by omega) (by decide) dX7_isAllowed_87 (by decide) rfl (fun hc87 => ?_) (fun hc87 => ?_)
                    · refine ks_iconst (x := nI 1) dX7_isAllowed_102 (by decide) rfl ?_
                      refine ks_goto (tgt := 107) dX7_isAllowed_103 (by decide) ?_
                      refine ks_sub [(0, _)] rfl ?_
                      exact tail (by omega) true (by unfold badO; first | exact (decide_eq_true (by omega)).symm | exact (decide_eq_false (by omega)).symm) _ (ks_up.rf _ _) (by rw [eN]; exact hM)
                    · refine ks_iload_n dX7_isAllowed_90 rfl rfl ?_
                      refine ks_bipush (x := nI 101) dX7_isAllowed_91 (by decide) rfl ?_
                      refine ks_icmp_eqN (tgt := 102) (by omega) (by decide) dX7_isAllowed_93 (by decide) rfl (fun hc93 => ?_) (fun hc93 => ?_)
                      · refine ks_iconst (x := nI 1) dX7_isAllowed_102 (by decide) rfl ?_
                        refine ks_goto (tgt := 107) dX7_isAllowed_103 (by decide) ?_
                        refine ks_sub [(0, _)] rfl ?_
                        exact tail (by omega) true (by unfold badO; first | exact (decide_eq_true (by omega)).symm | exact (decide_eq_false (by omega)).symm) _ (ks_up.rf _ _) (by rw [eN]; exact hM)
                      · refine ks_iload_n dX7_isAllowed_96 rfl rfl ?_
                        refine ks_bipush (x := nI 102) dX7_isAllowed_97 (by decide) rfl ?_
                        refine ks_icmp_neN (tgt := 106) (by omega) (by decide) dX7_isAllowed_99 (by decide) rfl (fun hc99 => ?_) (fun hc99 => ?_)
                        · refine ks_iconst (x := nI 0) dX7_isAllowed_106 (by decide) rfl ?_
                          refine ks_sub [(0, _)] rfl ?_
                          exact tail (by omega) false (by unfold badO; first | exact (decide_eq_true (by omega)).symm | exact (decide_eq_false (by omega)).symm) _ (ks_up.rf _ _) (by rw [eN]; exact hM)
                        · refine ks_iconst (x := nI 1) dX7_isAllowed_102 (by decide) rfl ?_
                          refine ks_goto (tgt := 107) dX7_isAllowed_103 (by decide) ?_
                          refine ks_sub [(0, _)] rfl ?_
                          exact tail (by omega) true (by unfold badO; first | exact (decide_eq_true (by omega)).symm | exact (decide_eq_false (by omega)).symm) _ (ks_up.rf _ _) (by rw [eN]; exact hM)
    · refine ks_aload_n dX7_isAllowed_25 rfl rfl ?_
      refine ks_dup dX7_isAllowed_26 rfl rfl ?_
      refine ks_getf (T := TX7) (kf := 13) kx_656 rfl in_X7 cl_X7 (by decide) hM rfl dX7_isAllowed_27 rfl ?_
      refine ks_iconst (x := nI 1) dX7_isAllowed_30 (by decide) rfl ?_
      refine ks_addN dX7_isAllowed_31 rfl ?_
      refine ks_putf (T := TX7) (kf := 13) kx_656 rfl in_X7 tyX7_ok nmX7 cl_X7 (by decide) hM (Nat.le_of_ble_eq_true rfl) rfl rfl rfl rfl dX7_isAllowed_32 rfl ?_
      have eN : opsN op ops = ops + 1 := by unfold opsN; rw [if_pos (by omega)]
      refine ks_iload_n dX7_isAllowed_35 rfl rfl ?_
      refine ks_bipush (x := nI 126) dX7_isAllowed_36 (by decide) rfl ?_
      refine ks_icmp_ltN (tgt := 48) (by omega) (by decide) dX7_isAllowed_38 (by decide) rfl (fun hc38 => ?_) (fun hc38 => ?_)
      · refine ks_iload_n dX7_isAllowed_48 rfl rfl ?_
        refine ks_sipush (x := nI 131) dX7_isAllowed_49 (by decide) rfl ?_
        refine ks_icmp_ltN (tgt := 62) (by omega) (by decide) dX7_isAllowed_52 (by decide) rfl (fun hc52 => ?_) (fun hc52 => ?_)
        · refine ks_iload_n dX7_isAllowed_62 rfl rfl ?_
          refine ks_sipush (x := nI 141) dX7_isAllowed_63 (by decide) rfl ?_
          refine ks_icmp_eqN (tgt := 102) (by omega) (by decide) dX7_isAllowed_66 (by decide) rfl (fun hc66 => ?_) (fun hc66 => ?_)
          · refine ks_iconst (x := nI 1) dX7_isAllowed_102 (by decide) rfl ?_
            refine ks_goto (tgt := 107) dX7_isAllowed_103 (by decide) ?_
            refine ks_sub [(0, _)] rfl ?_
            exact tail (by omega) true (by unfold badO; first | exact (decide_eq_true (by omega)).symm | exact (decide_eq_false (by omega)).symm) _ (ks_up_set _ _ (by decide)) (by rw [eN]; exact ks_set_same _ _ _)
          · refine ks_iload_n dX7_isAllowed_69 rfl rfl ?_
            refine ks_sipush (x := nI 142) dX7_isAllowed_70 (by decide) rfl ?_
            refine ks_icmp_eqN (tgt := 102) (by omega) (by decide) dX7_isAllowed_73 (by decide) rfl (fun hc73 => ?_) (fun hc73 => ?_)
            · refine ks_iconst (x := nI 1) dX7_isAllowed_102 (by decide) rfl ?_
              refine ks_goto (tgt := 107) dX7_isAllowed_103 (by decide) ?_
              refine ks_sub [(0, _)] rfl ?_
              exact tail (by omega) true (by unfold badO; first | exact (decide_eq_true (by omega)).symm | exact (decide_eq_false (by omega)).symm) _ (ks_up_set _ _ (by decide)) (by rw [eN]; exact ks_set_same _ _ _)
            · refine ks_iload_n dX7_isAllowed_76 rfl rfl ?_
              refine ks_sipush (x := nI 149) dX7_isAllowed_77 (by decide) rfl ?_
              refine ks_icmp_ltN (tgt := 90) (by omega) (by decide) dX7_isAllowed_80 (by decide) rfl (fun hc80 => ?_) (fun hc80 => ?_)
              · refine ks_iload_n dX7_isAllowed_90 rfl rfl ?_
                refine ks_bipush (x := nI 101) dX7_isAllowed_91 (by decide) rfl ?_
                refine ks_icmp_eqN (tgt := 102) (by omega) (by decide) dX7_isAllowed_93 (by decide) rfl (fun hc93 => ?_) (fun hc93 => ?_)
                · refine ks_iconst (x := nI 1) dX7_isAllowed_102 (by decide) rfl ?_
                  refine ks_goto (tgt := 107) dX7_isAllowed_103 (by decide) ?_
                  refine ks_sub [(0, _)] rfl ?_
                  exact tail (by omega) true (by unfold badO; first | exact (decide_eq_true (by omega)).symm | exact (decide_eq_false (by omega)).symm) _ (ks_up_set _ _ (by decide)) (by rw [eN]; exact ks_set_same _ _ _)
                · refine ks_iload_n dX7_isAllowed_96 rfl rfl ?_
                  refine ks_bipush (x := nI 102) dX7_isAllowed_97 (by decide) rfl ?_
                  refine ks_icmp_neN (tgt := 106) (by omega) (by decide) dX7_isAllowed_99 (by decide) rfl (fun hc99 => ?_) (fun hc99 => ?_)
                  · refine ks_iconst (x := nI 0) dX7_isAllowed_106 (by decide) rfl ?_
                    refine ks_sub [(0, _)] rfl ?_
                    exact tail (by omega) false (by unfold badO; first | exact (decide_eq_true (by omega)).symm | exact (decide_eq_false (by omega)).symm) _ (ks_up_set _ _ (by decide)) (by rw [eN]; exact ks_set_same _ _ _)
                  · refine ks_iconst (x := nI 1) dX7_isAllowed_102 (by decide) rfl ?_
                    refine ks_goto (tgt := 107) dX7_isAllowed_103 (by decide) ?_
                    refine ks_sub [(0, _)] rfl ?_
                    exact tail (by omega) true (by unfold badO; first | exact (decide_eq_true (by omega)).symm | exact (decide_eq_false (by omega)).symm) _ (ks_up_set _ _ (by decide)) (by rw [eN]; exact ks_set_same _ _ _)
              · refine ks_iload_n dX7_isAllowed_83 rfl rfl ?_
                refine ks_sipush (x := nI 153) dX7_isAllowed_84 (by decide) rfl ?_
                refine ks_icmp_leN (tgt := 102) (by omega) (by decide) dX7_isAllowed_87 (by decide) rfl (fun hc87 => ?_) (fun hc87 => ?_)
                · refine ks_iconst (x := nI 1) dX7_isAllowed_102 (by decide) rfl ?_
                  refine ks_goto (tgt := 107) dX7_isAllowed_103 (by decide) ?_
                  refine ks_sub [(0, _)] rfl ?_
                  exact tail (by omega) true (by unfold badO; first | exact (decide_eq_true (by omega)).symm | exact (decide_eq_false (by omega)).symm) _ (ks_up_set _ _ (by decide)) (by rw [eN]; exact ks_set_same _ _ _)
                · refine ks_iload_n dX7_isAllowed_90 rfl rfl ?_
                  refine ks_bipush (x := nI 101) dX7_isAllowed_91 (by decide) rfl ?_
                  refine ks_icmp_eqN (tgt := 102) (by omega) (by decide) dX7_isAllowed_93 (by decide) rfl (fun hc93 => ?_) (fun hc93 => ?_)
                  · refine ks_iconst (x := nI 1) dX7_isAllowed_102 (by decide) rfl ?_
                    refine ks_goto (tgt := 107) dX7_isAllowed_103 (by decide) ?_
                    refine ks_sub [(0, _)] rfl ?_
                    exact tail (by omega) true (by unfold badO; first | exact (decide_eq_true (by omega)).symm | exact (decide_eq_false (by omega)).symm) _ (ks_up_set _ _ (by decide)) (by rw [eN]; exact ks_set_same _ _ _)
                  · refine ks_iload_n dX7_isAllowed_96 rfl rfl ?_
                    refine ks_bipush (x := nI 102) dX7_isAllowed_97 (by decide) rfl ?_
                    refine ks_icmp_neN (tgt := 106) (by omega) (by decide) dX7_isAllowed_99 (by decide) rfl (fun hc99 => ?_) (fun hc99 => ?_)
                    · refine ks_iconst (x := nI 0) dX7_isAllowed_106 (by decide) rfl ?_
                      refine ks_sub [(0, _)] rfl ?_
                      exact tail (by omega) false (by unfold badO; first | exact (decide_eq_true (by omega)).symm | exact (decide_eq_false (by omega)).symm) _ (ks_up_set _ _ (by decide)) (by rw [eN]; exact ks_set_same _ _ _)
                    · refine ks_iconst (x := nI 1) dX7_isAllowed_102 (by decide) rfl ?_
                      refine ks_goto (tgt := 107) dX7_isAllowed_103 (by decide) ?_
                      refine ks_sub [(0, _)] rfl ?_
                      exact tail (by omega) true (by unfold badO; first | exact (decide_eq_true (by omega)).symm | exact (decide_eq_false (by omega)).symm) _ (ks_up_set _ _ (by decide)) (by rw [eN]; exact ks_set_same _ _ _)
        · refine ks_iload_n dX7_isAllowed_55 rfl rfl ?_
          refine ks_sipush (x := nI 134) dX7_isAllowed_56 (by decide) rfl ?_
          refine ks_icmp_leN (tgt := 102) (by omega) (by decide) dX7_isAllowed_59 (by decide) rfl (fun hc59 => ?_) (fun hc59 => ?_)
          · refine ks_iconst (x := nI 1) dX7_isAllowed_102 (by decide) rfl ?_
            refine ks_goto (tgt := 107) dX7_isAllowed_103 (by decide) ?_
            refine ks_sub [(0, _)] rfl ?_
            exact tail (by omega) true (by unfold badO; first | exact (decide_eq_true (by omega)).symm | exact (decide_eq_false (by omega)).symm) _ (ks_up_set _ _ (by decide)) (by rw [eN]; exact ks_set_same _ _ _)
          · refine ks_iload_n dX7_isAllowed_62 rfl rfl ?_
            refine ks_sipush (x := nI 141) dX7_isAllowed_63 (by decide) rfl ?_
            refine ks_icmp_eqN (tgt := 102) (by omega) (by decide) dX7_isAllowed_66 (by decide) rfl (fun hc66 => ?_) (fun hc66 => ?_)
            · refine ks_iconst (x := nI 1) dX7_isAllowed_102 (by decide) rfl ?_
              refine ks_goto (tgt := 107) dX7_isAllowed_103 (by decide) ?_
              refine ks_sub [(0, _)] rfl ?_
              exact tail (by omega) true (by unfold badO; first | exact (decide_eq_true (by omega)).symm | exact (decide_eq_false (by omega)).symm) _ (ks_up_set _ _ (by decide)) (by rw [eN]; exact ks_set_same _ _ _)
            · refine ks_iload_n dX7_isAllowed_69 rfl rfl ?_
              refine ks_sipush (x := nI 142) dX7_isAllowed_70 (by decide) rfl ?_
              refine ks_icmp_eqN (tgt := 102) (by omega) (by decide) dX7_isAllowed_73 (by decide) rfl (fun hc73 => ?_) (fun hc73 => ?_)
              · refine ks_iconst (x := nI 1) dX7_isAllowed_102 (by decide) rfl ?_
                refine ks_goto (tgt := 107) dX7_isAllowed_103 (by decide) ?_
                refine ks_sub [(0, _)] rfl ?_
                exact tail (by omega) true (by unfold badO; first | exact (decide_eq_true (by omega)).symm | exact (decide_eq_false (by omega)).symm) _ (ks_up_set _ _ (by decide)) (by rw [eN]; exact ks_set_same _ _ _)
              · refine ks_iload_n dX7_isAllowed_76 rfl rfl ?_
                refine ks_sipush (x := nI 149) dX7_isAllowed_77 (by decide) rfl ?_
                refine ks_icmp_ltN (tgt := 90) (by omega) (by decide) dX7_isAllowed_80 (by decide) rfl (fun hc80 => ?_) (fun hc80 => ?_)
                · refine ks_iload_n dX7_isAllowed_90 rfl rfl ?_
                  refine ks_bipush (x := nI 101) dX7_isAllowed_91 (by decide) rfl ?_
                  refine ks_icmp_eqN (tgt := 102) (by omega) (by decide) dX7_isAllowed_93 (by decide) rfl (fun hc93 => ?_) (fun hc93 => ?_)
                  · refine ks_iconst (x := nI 1) dX7_isAllowed_102 (by decide) rfl ?_
                    refine ks_goto (tgt := 107) dX7_isAllowed_103 (by decide) ?_
                    refine ks_sub [(0, _)] rfl ?_
                    exact tail (by omega) true (by unfold badO; first | exact (decide_eq_true (by omega)).symm | exact (decide_eq_false (by omega)).symm) _ (ks_up_set _ _ (by decide)) (by rw [eN]; exact ks_set_same _ _ _)
                  · refine ks_iload_n dX7_isAllowed_96 rfl rfl ?_
                    refine ks_bipush (x := nI 102) dX7_isAllowed_97 (by decide) rfl ?_
                    refine ks_icmp_neN (tgt := 106) (by omega) (by decide) dX7_isAllowed_99 (by decide) rfl (fun hc99 => ?_) (fun hc99 => ?_)
                    · refine ks_iconst (x := nI 0) dX7_isAllowed_106 (by decide) rfl ?_
                      refine ks_sub [(0, _)] rfl ?_
                      exact tail (by omega) false (by unfold badO; first | exact (decide_eq_true (by omega)).symm | exact (decide_eq_false (by omega)).symm) _ (ks_up_set _ _ (by decide)) (by rw [eN]; exact ks_set_same _ _ _)
                    · refine ks_iconst (x := nI 1) dX7_isAllowed_102 (by decide) rfl ?_
                      refine ks_goto (tgt := 107) dX7_isAllowed_103 (by decide) ?_
                      refine ks_sub [(0, _)] rfl ?_
                      exact tail (by omega) true (by unfold badO; first | exact (decide_eq_true (by omega)).symm | exact (decide_eq_false (by omega)).symm) _ (ks_up_set _ _ (by decide)) (by rw [eN]; exact ks_set_same _ _ _)
                · refine ks_iload_n dX7_isAllowed_83 rfl rfl ?_
                  refine ks_sipush (x := nI 153) dX7_isAllowed_84 (by decide) rfl ?_
                  refine ks_icmp_leN (tgt := 102) (by omega) (by decide) dX7_isAllowed_87 (by decide) rfl (fun hc87 => ?_) (fun hc87 => ?_)
                  · refine ks_iconst (x := nI 1) dX7_isAllowed_102 (by decide) rfl ?_
                    refine ks_goto (tgt := 107) dX7_isAllowed_103 (by decide) ?_
                    refine ks_sub [(0, _)] rfl ?_
                    exact tail (by omega) true (by unfold badO; first | exact (decide_eq_true (by omega)).symm | exact (decide_eq_false (by omega)).symm) _ (ks_up_set _ _ (by decide)) (by rw [eN]; exact ks_set_same _ _ _)
                  · refine ks_iload_n dX7_isAllowed_90 rfl rfl ?_
                    refine ks_bipush (x := nI 101) dX7_isAllowed_91 (by decide) rfl ?_
                    refine ks_icmp_eqN (tgt := 102) (by omega) (by decide) dX7_isAllowed_93 (by decide) rfl (fun hc93 => ?_) (fun hc93 => ?_)
                    · refine ks_iconst (x := nI 1) dX7_isAllowed_102 (by decide) rfl ?_
                      refine ks_goto (tgt := 107) dX7_isAllowed_103 (by decide) ?_
                      refine ks_sub [(0, _)] rfl ?_
                      exact tail (by omega) true (by unfold badO; first | exact (decide_eq_true (by omega)).symm | exact (decide_eq_false (by omega)).symm) _ (ks_up_set _ _ (by decide)) (by rw [eN]; exact ks_set_same _ _ _)
                    · refine ks_iload_n dX7_isAllowed_96 rfl rfl ?_
                      refine ks_bipush (x := nI 102) dX7_isAllowed_97 (by decide) rfl ?_
                      refine ks_icmp_neN (tgt := 106) (by omega) (by decide) dX7_isAllowed_99 (by decide) rfl (fun hc99 => ?_) (fun hc99 => ?_)
                      · refine ks_iconst (x := nI 0) dX7_isAllowed_106 (by decide) rfl ?_
                        refine ks_sub [(0, _)] rfl ?_
                        exact tail (by omega) false (by unfold badO; first | exact (decide_eq_true (by omega)).symm | exact (decide_eq_false (by omega)).symm) _ (ks_up_set _ _ (by decide)) (by rw [eN]; exact ks_set_same _ _ _)
                      · refine ks_iconst (x := nI 1) dX7_isAllowed_102 (by decide) rfl ?_
                        refine ks_goto (tgt := 107) dX7_isAllowed_103 (by decide) ?_
                        refine ks_sub [(0, _)] rfl ?_
                        exact tail (by omega) true (by unfold badO; first | exact (decide_eq_true (by omega)).symm | exact (decide_eq_false (by omega)).symm) _ (ks_up_set _ _ (by decide)) (by rw [eN]; exact ks_set_same _ _ _)
      · refine ks_iload_n dX7_isAllowed_41 rfl rfl ?_
        refine ks_sipush (x := nI 129) dX7_isAllowed_42 (by decide) rfl ?_
        refine ks_icmp_leN (tgt := 102) (by omega) (by decide) dX7_isAllowed_45 (by decide) rfl (fun hc45 => ?_) (fun hc45 => ?_)
        · refine ks_iconst (x := nI 1) dX7_isAllowed_102 (by decide) rfl ?_
          refine ks_goto (tgt := 107) dX7_isAllowed_103 (by decide) ?_
          refine ks_sub [(0, _)] rfl ?_
          exact tail (by omega) true (by unfold badO; first | exact (decide_eq_true (by omega)).symm | exact (decide_eq_false (by omega)).symm) _ (ks_up_set _ _ (by decide)) (by rw [eN]; exact ks_set_same _ _ _)
        · refine ks_iload_n dX7_isAllowed_48 rfl rfl ?_
          refine ks_sipush (x := nI 131) dX7_isAllowed_49 (by decide) rfl ?_
          refine ks_icmp_ltN (tgt := 62) (by omega) (by decide) dX7_isAllowed_52 (by decide) rfl (fun hc52 => ?_) (fun hc52 => ?_)
          · refine ks_iload_n dX7_isAllowed_62 rfl rfl ?_
            refine ks_sipush (x := nI 141) dX7_isAllowed_63 (by decide) rfl ?_
            refine ks_icmp_eqN (tgt := 102) (by omega) (by decide) dX7_isAllowed_66 (by decide) rfl (fun hc66 => ?_) (fun hc66 => ?_)
            · refine ks_iconst (x := nI 1) dX7_isAllowed_102 (by decide) rfl ?_
              refine ks_goto (tgt := 107) dX7_isAllowed_103 (by decide) ?_
              refine ks_sub [(0, _)] rfl ?_
              exact tail (by omega) true (by unfold badO; first | exact (decide_eq_true (by omega)).symm | exact (decide_eq_false (by omega)).symm) _ (ks_up_set _ _ (by decide)) (by rw [eN]; exact ks_set_same _ _ _)
            · refine ks_iload_n dX7_isAllowed_69 rfl rfl ?_
              refine ks_sipush (x := nI 142) dX7_isAllowed_70 (by decide) rfl ?_
              refine ks_icmp_eqN (tgt := 102) (by omega) (by decide) dX7_isAllowed_73 (by decide) rfl (fun hc73 => ?_) (fun hc73 => ?_)
              · refine ks_iconst (x := nI 1) dX7_isAllowed_102 (by decide) rfl ?_
                refine ks_goto (tgt := 107) dX7_isAllowed_103 (by decide) ?_
                refine ks_sub [(0, _)] rfl ?_
                exact tail (by omega) true (by unfold badO; first | exact (decide_eq_true (by omega)).symm | exact (decide_eq_false (by omega)).symm) _ (ks_up_set _ _ (by decide)) (by rw [eN]; exact ks_set_same _ _ _)
              · refine ks_iload_n dX7_isAllowed_76 rfl rfl ?_
                refine ks_sipush (x := nI 149) dX7_isAllowed_77 (by decide) rfl ?_
                refine ks_icmp_ltN (tgt := 90) (by omega) (by decide) dX7_isAllowed_80 (by decide) rfl (fun hc80 => ?_) (fun hc80 => ?_)
                · refine ks_iload_n dX7_isAllowed_90 rfl rfl ?_
                  refine ks_bipush (x := nI 101) dX7_isAllowed_91 (by decide) rfl ?_
                  refine ks_icmp_eqN (tgt := 102) (by omega) (by decide) dX7_isAllowed_93 (by decide) rfl (fun hc93 => ?_) (fun hc93 => ?_)
                  · refine ks_iconst (x := nI 1) dX7_isAllowed_102 (by decide) rfl ?_
                    refine ks_goto (tgt := 107) dX7_isAllowed_103 (by decide) ?_
                    refine ks_sub [(0, _)] rfl ?_
                    exact tail (by omega) true (by unfold badO; first | exact (decide_eq_true (by omega)).symm | exact (decide_eq_false (by omega)).symm) _ (ks_up_set _ _ (by decide)) (by rw [eN]; exact ks_set_same _ _ _)
                  · refine ks_iload_n dX7_isAllowed_96 rfl rfl ?_
                    refine ks_bipush (x := nI 102) dX7_isAllowed_97 (by decide) rfl ?_
                    refine ks_icmp_neN (tgt := 106) (by omega) (by decide) dX7_isAllowed_99 (by decide) rfl (fun hc99 => ?_) (fun hc99 => ?_)
                    · refine ks_iconst (x := nI 0) dX7_isAllowed_106 (by decide) rfl ?_
                      refine ks_sub [(0, _)] rfl ?_
                      exact tail (by omega) false (by unfold badO; first | exact (decide_eq_true (by omega)).symm | exact (decide_eq_false (by omega)).symm) _ (ks_up_set _ _ (by decide)) (by rw [eN]; exact ks_set_same _ _ _)
                    · refine ks_iconst (x := nI 1) dX7_isAllowed_102 (by decide) rfl ?_
                      refine ks_goto (tgt := 107) dX7_isAllowed_103 (by decide) ?_
                      refine ks_sub [(0, _)] rfl ?_
                      exact tail (by omega) true (by unfold badO; first | exact (decide_eq_true (by omega)).symm | exact (decide_eq_false (by omega)).symm) _ (ks_up_set _ _ (by decide)) (by rw [eN]; exact ks_set_same _ _ _)
                · refine ks_iload_n dX7_isAllowed_83 rfl rfl ?_
                  refine ks_sipush (x := nI 153) dX7_isAllowed_84 (by decide) rfl ?_
                  refine ks_icmp_leN (tgt := 102) (by omega) (by decide) dX7_isAllowed_87 (by decide) rfl (fun hc87 => ?_) (fun hc87 => ?_)
                  · refine ks_iconst (x := nI 1) dX7_isAllowed_102 (by decide) rfl ?_
                    refine ks_goto (tgt := 107) dX7_isAllowed_103 (by decide) ?_
                    refine ks_sub [(0, _)] rfl ?_
                    exact tail (by omega) true (by unfold badO; first | exact (decide_eq_true (by omega)).symm | exact (decide_eq_false (by omega)).symm) _ (ks_up_set _ _ (by decide)) (by rw [eN]; exact ks_set_same _ _ _)
                  · refine ks_iload_n dX7_isAllowed_90 rfl rfl ?_
                    refine ks_bipush (x := nI 101) dX7_isAllowed_91 (by decide) rfl ?_
                    refine ks_icmp_eqN (tgt := 102) (by omega) (by decide) dX7_isAllowed_93 (by decide) rfl (fun hc93 => ?_) (fun hc93 => ?_)
                    · refine ks_iconst (x := nI 1) dX7_isAllowed_102 (by decide) rfl ?_
                      refine ks_goto (tgt := 107) dX7_isAllowed_103 (by decide) ?_
                      refine ks_sub [(0, _)] rfl ?_
                      exact tail (by omega) true (by unfold badO; first | exact (decide_eq_true (by omega)).symm | exact (decide_eq_false (by omega)).symm) _ (ks_up_set _ _ (by decide)) (by rw [eN]; exact ks_set_same _ _ _)
                    · refine ks_iload_n dX7_isAllowed_96 rfl rfl ?_
                      refine ks_bipush (x := nI 102) dX7_isAllowed_97 (by decide) rfl ?_
                      refine ks_icmp_neN (tgt := 106) (by omega) (by decide) dX7_isAllowed_99 (by decide) rfl (fun hc99 => ?_) (fun hc99 => ?_)
                      · refine ks_iconst (x := nI 0) dX7_isAllowed_106 (by decide) rfl ?_
                        refine ks_sub [(0, _)] rfl ?_
                        exact tail (by omega) false (by unfold badO; first | exact (decide_eq_true (by omega)).symm | exact (decide_eq_false (by omega)).symm) _ (ks_up_set _ _ (by decide)) (by rw [eN]; exact ks_set_same _ _ _)
                      · refine ks_iconst (x := nI 1) dX7_isAllowed_102 (by decide) rfl ?_
                        refine ks_goto (tgt := 107) dX7_isAllowed_103 (by decide) ?_
                        refine ks_sub [(0, _)] rfl ?_
                        exact tail (by omega) true (by unfold badO; first | exact (decide_eq_true (by omega)).symm | exact (decide_eq_false (by omega)).symm) _ (ks_up_set _ _ (by decide)) (by rw [eN]; exact ks_set_same _ _ _)
          · refine ks_iload_n dX7_isAllowed_55 rfl rfl ?_
            refine ks_sipush (x := nI 134) dX7_isAllowed_56 (by decide) rfl ?_
            refine ks_icmp_leN (tgt := 102) (by omega) (by decide) dX7_isAllowed_59 (by decide) rfl (fun hc59 => ?_) (fun hc59 => ?_)
            · refine ks_iconst (x := nI 1) dX7_isAllowed_102 (by decide) rfl ?_
              refine ks_goto (tgt := 107) dX7_isAllowed_103 (by decide) ?_
              refine ks_sub [(0, _)] rfl ?_
              exact tail (by omega) true (by unfold badO; first | exact (decide_eq_true (by omega)).symm | exact (decide_eq_false (by omega)).symm) _ (ks_up_set _ _ (by decide)) (by rw [eN]; exact ks_set_same _ _ _)
            · refine ks_iload_n dX7_isAllowed_62 rfl rfl ?_
              refine ks_sipush (x := nI 141) dX7_isAllowed_63 (by decide) rfl ?_
              refine ks_icmp_eqN (tgt := 102) (by omega) (by decide) dX7_isAllowed_66 (by decide) rfl (fun hc66 => ?_) (fun hc66 => ?_)
              · refine ks_iconst (x := nI 1) dX7_isAllowed_102 (by decide) rfl ?_
                refine ks_goto (tgt := 107) dX7_isAllowed_103 (by decide) ?_
                refine ks_sub [(0, _)] rfl ?_
                exact tail (by omega) true (by unfold badO; first | exact (decide_eq_true (by omega)).symm | exact (decide_eq_false (by omega)).symm) _ (ks_up_set _ _ (by decide)) (by rw [eN]; exact ks_set_same _ _ _)
              · refine ks_iload_n dX7_isAllowed_69 rfl rfl ?_
                refine ks_sipush (x := nI 142) dX7_isAllowed_70 (by decide) rfl ?_
                refine ks_icmp_eqN (tgt := 102) (by omega) (by decide) dX7_isAllowed_73 (by decide) rfl (fun hc73 => ?_) (fun hc73 => ?_)
                · refine ks_iconst (x := nI 1) dX7_isAllowed_102 (by decide) rfl ?_
                  refine ks_goto (tgt := 107) dX7_isAllowed_103 (by decide) ?_
                  refine ks_sub [(0, _)] rfl ?_
                  exact tail (by omega) true (by unfold badO; first | exact (decide_eq_true (by omega)).symm | exact (decide_eq_false (by omega)).symm) _ (ks_up_set _ _ (by decide)) (by rw [eN]; exact ks_set_same _ _ _)
                · refine ks_iload_n dX7_isAllowed_76 rfl rfl ?_
                  refine ks_sipush (x := nI 149) dX7_isAllowed_77 (by decide) rfl ?_
                  refine ks_icmp_ltN (tgt := 90) (by omega) (by decide) dX7_isAllowed_80 (by decide) rfl (fun hc80 => ?_) (fun hc80 => ?_)
                  · refine ks_iload_n dX7_isAllowed_90 rfl rfl ?_
                    refine ks_bipush (x := nI 101) dX7_isAllowed_91 (by decide) rfl ?_
                    refine ks_icmp_eqN (tgt := 102) (by omega) (by decide) dX7_isAllowed_93 (by decide) rfl (fun hc93 => ?_) (fun hc93 => ?_)
                    · refine ks_iconst (x := nI 1) dX7_isAllowed_102 (by decide) rfl ?_
                      refine ks_goto (tgt := 107) dX7_isAllowed_103 (by decide) ?_
                      refine ks_sub [(0, _)] rfl ?_
                      exact tail (by omega) true (by unfold badO; first | exact (decide_eq_true (by omega)).symm | exact (decide_eq_false (by omega)).symm) _ (ks_up_set _ _ (by decide)) (by rw [eN]; exact ks_set_same _ _ _)
                    · refine ks_iload_n dX7_isAllowed_96 rfl rfl ?_
                      refine ks_bipush (x := nI 102) dX7_isAllowed_97 (by decide) rfl ?_
                      refine ks_icmp_neN (tgt := 106) (by omega) (by decide) dX7_isAllowed_99 (by decide) rfl (fun hc99 => ?_) (fun hc99 => ?_)
                      · refine ks_iconst (x := nI 0) dX7_isAllowed_106 (by decide) rfl ?_
                        refine ks_sub [(0, _)] rfl ?_
                        exact tail (by omega) false (by unfold badO; first | exact (decide_eq_true (by omega)).symm | exact (decide_eq_false (by omega)).symm) _ (ks_up_set _ _ (by decide)) (by rw [eN]; exact ks_set_same _ _ _)
                      · refine ks_iconst (x := nI 1) dX7_isAllowed_102 (by decide) rfl ?_
                        refine ks_goto (tgt := 107) dX7_isAllowed_103 (by decide) ?_
                        refine ks_sub [(0, _)] rfl ?_
                        exact tail (by omega) true (by unfold badO; first | exact (decide_eq_true (by omega)).symm | exact (decide_eq_false (by omega)).symm) _ (ks_up_set _ _ (by decide)) (by rw [eN]; exact ks_set_same _ _ _)
                  · refine ks_iload_n dX7_isAllowed_83 rfl rfl ?_
                    refine ks_sipush (x := nI 153) dX7_isAllowed_84 (by decide) rfl ?_
                    refine ks_icmp_leN (tgt := 102) (by omega) (by decide) dX7_isAllowed_87 (by decide) rfl (fun hc87 => ?_) (fun hc87 => ?_)
                    · refine ks_iconst (x := nI 1) dX7_isAllowed_102 (by decide) rfl ?_
                      refine ks_goto (tgt := 107) dX7_isAllowed_103 (by decide) ?_
                      refine ks_sub [(0, _)] rfl ?_
                      exact tail (by omega) true (by unfold badO; first | exact (decide_eq_true (by omega)).symm | exact (decide_eq_false (by omega)).symm) _ (ks_up_set _ _ (by decide)) (by rw [eN]; exact ks_set_same _ _ _)
                    · refine ks_iload_n dX7_isAllowed_90 rfl rfl ?_
                      refine ks_bipush (x := nI 101) dX7_isAllowed_91 (by decide) rfl ?_
                      refine ks_icmp_eqN (tgt := 102) (by omega) (by decide) dX7_isAllowed_93 (by decide) rfl (fun hc93 => ?_) (fun hc93 => ?_)
                      · refine ks_iconst (x := nI 1) dX7_isAllowed_102 (by decide) rfl ?_
                        refine ks_goto (tgt := 107) dX7_isAllowed_103 (by decide) ?_
                        refine ks_sub [(0, _)] rfl ?_
                        exact tail (by omega) true (by unfold badO; first | exact (decide_eq_true (by omega)).symm | exact (decide_eq_false (by omega)).symm) _ (ks_up_set _ _ (by decide)) (by rw [eN]; exact ks_set_same _ _ _)
                      · refine ks_iload_n dX7_isAllowed_96 rfl rfl ?_
                        refine ks_bipush (x := nI 102) dX7_isAllowed_97 (by decide) rfl ?_
                        refine ks_icmp_neN (tgt := 106) (by omega) (by decide) dX7_isAllowed_99 (by decide) rfl (fun hc99 => ?_) (fun hc99 => ?_)
                        · refine ks_iconst (x := nI 0) dX7_isAllowed_106 (by decide) rfl ?_
                          refine ks_sub [(0, _)] rfl ?_
                          exact tail (by omega) false (by unfold badO; first | exact (decide_eq_true (by omega)).symm | exact (decide_eq_false (by omega)).symm) _ (ks_up_set _ _ (by decide)) (by rw [eN]; exact ks_set_same _ _ _)
                        · refine ks_iconst (x := nI 1) dX7_isAllowed_102 (by decide) rfl ?_
                          refine ks_goto (tgt := 107) dX7_isAllowed_103 (by decide) ?_
                          refine ks_sub [(0, _)] rfl ?_
                          exact tail (by omega) true (by unfold badO; first | exact (decide_eq_true (by omega)).symm | exact (decide_eq_false (by omega)).symm) _ (ks_up_set _ _ (by decide)) (by rw [eN]; exact ks_set_same _ _ _)
  · refine ks_iload_n dX7_isAllowed_6 rfl rfl ?_
    refine ks_sipush (x := nI 520) dX7_isAllowed_7 (by decide) rfl ?_
    refine ks_icmp_gtN (tgt := 17) (by omega) (by decide) dX7_isAllowed_10 (by decide) rfl (fun hc10 => ?_) (fun hc10 => ?_)
    · refine ks_iconst (x := nI 0) dX7_isAllowed_17 (by decide) rfl ?_
      refine ks_zret rfl rfl dX7_isAllowed_18 ?_
      refine ⟨?_, ks_up.rf _ _, ?_⟩
      · unfold alwO
        rw [if_pos (by omega)]
        first | (rw [decide_eq_true (by omega)]; rfl) | (rw [decide_eq_false (by omega)]; rfl)
      · unfold opsN
        rw [if_neg (by omega)]
        exact hM
    · refine ks_iconst (x := nI 1) dX7_isAllowed_13 (by decide) rfl ?_
      refine ks_goto (tgt := 18) dX7_isAllowed_14 (by decide) ?_
      refine ks_zret rfl rfl dX7_isAllowed_18 ?_
      refine ⟨?_, ks_up.rf _ _, ?_⟩
      · unfold alwO
        rw [if_pos (by omega)]
        first | (rw [decide_eq_true (by omega)]; rfl) | (rw [decide_eq_false (by omega)]; rfl)
      · unfold opsN
        rw [if_neg (by omega)]
        exact hM
/-- all but the cells of L stays, and the arena below u -/
def stV (L : List Nat) (S S1 : ks_S) (u : Nat) : Prop := ks_up S S1 L ∧ ∀ h, S.2.2 30 = some (kB 24096 h) → kO h → ∃ h2, S1.2.2 30 = some (kB 24096 h2) ∧ kO h2 ∧ ∀ j, j < u → h2 j = h j
theorem stU.v {S S1 : ks_S} {u : Nat} {L : List Nat} (h : stU S S1 u) (hL : ∀ a, a ∈ [29, 30, 31, 32, 33, 34, 35] → a ∈ L) : stV L S S1 u := ⟨h.1.mono hL, h.2⟩
theorem stV.of {S S1 : ks_S} {u : Nat} {L L2 : List Nat} (h : ks_up S S1 L2) (h30 : 30 ∉ L2) (hL : ∀ a, a ∈ L2 → a ∈ L) : stV L S S1 u := ⟨h.mono hL, fun f hf ho => ⟨f, h.at hf h30, ho, fun _ _ => rfl⟩⟩
theorem stV.trans {S S1 S2 : ks_S} {u v : Nat} {L : List Nat} (h : stV L S S1 u) (h2 : stV L S1 S2 v) (hv : u ≤ v) : stV L S S2 u := by
  refine ⟨h.1.trans h2.1, fun f hf ho => ?_⟩
  obtain ⟨f1, a1, a2, a3⟩ := h.2 f hf ho
  obtain ⟨f2, b1, b2, b3⟩ := h2.2 f1 a1 a2
  exact ⟨f2, b1, b2, fun j hj => (b3 j (by omega)).trans (a3 j hj)⟩
abbrev LSt : List Nat := [29, 30, 31, 32, 33, 34, 35]
/-- an answer of the machine: r is what stands behind it, b how much the arena may grow -/
def mcR (L : List Nat) (S : ks_S) (u b : Nat) (r : Option (List (List Nat) × List (List Nat))) (z : Option Value) (S1 : ks_S) : Prop := match r with
  | some q => z = some (.int (ks_bo true)) ∧ stV L S S1 u ∧ ∃ u2, u ≤ u2 ∧ u2 ≤ u + b ∧ st_ok S1 q.1 q.2 u2
  | none => z = some (.int (ks_bo false)) ∧ ks_up S S1 L ∧ ∃ xs ys u2, st_ok S1 xs ys u2
theorem mcR.yes {S S1 : ks_S} {u b u2 : Nat} {xs ys : List (List Nat)} (h1 : stU S S1 u) (h2 : u ≤ u2) (h3 : u2 ≤ u + b) (h4 : st_ok S1 xs ys u2) : mcR LSt S u b (some (xs, ys)) (some (.int (ks_bo true))) S1 := ⟨rfl, h1.v (fun _ h => h), u2, h2, h3, h4⟩
theorem mcR.no {S S1 : ks_S} {u b u2 : Nat} {xs ys : List (List Nat)} (h1 : ks_up S S1 LSt) (h4 : st_ok S1 xs ys u2) : mcR LSt S u b none (some (.int (ks_bo false))) S1 := ⟨rfl, h1, xs, ys, u2, h4⟩
def vfS (xs ys : List (List Nat)) : Option (List (List Nat) × List (List Nat)) := if topTr xs then some (xs.drop 1, ys) else none
def cmS (xs ys : List (List Nat)) : Option (List (List Nat) × List (List Nat)) := if xs.length < 2 then none else some (flagL (decide (xs.getD 0 [] = xs.getD 1 [])) :: xs.drop 2, ys)
theorem topTr_len {xs : List (List Nat)} (h : topTr xs = true) : 0 < xs.length := by
  cases xs with
  | nil => cases h
  | cons a r => exact Nat.succ_pos _
theorem flagL_len (b : Bool) : (flagL b).length ≤ 1 := by cases b <;> decide
set_option maxRecDepth 100000 in
set_option maxHeartbeats 2000000 in
theorem c_mc_verify {l : Launch} {G : ks_G} {d : Nat} {S : ks_S} {inp cy pa pe pb ops opn cl : Nat} {kT kC sT sC : Int32} (hM : S.2.2 27 = some (mcO inp cy pa pe pb ops opn cl kT kC sT sC)) {xs ys : List (List Nat)} {u : Nat} (hO : st_ok S xs ys u) : ks_P l G yX7_verify mX7_verify (d + 1) [.ref 27] S (mcR LSt S u 0 (vfS xs ys)) := by
  have bd := hO.bd
  refine ks_of (by decide) rfl rfl (Nat.le_of_ble_eq_true rfl) ?_
  show ks_X l G mX7_verify (d + 1) 0 [(0, .ref 27)] [] S _
  refine ks_aload_n dX7_verify_0 rfl rfl ?_
  refine ks_getf (T := TX7) (kf := 3) kx_646 rfl in_X7 cl_X7 (by decide) hM rfl dX7_verify_1 rfl ?_
  refine ks_callV (n := 0) (M' := mX8_isTopTrue) (c_st_isTopTrue (d := d) hO) hO.ob cl_X8 rfl kx_1571 kx_1572 kx_1573 kx_25 kx_1574 (by decide +kernel) rfl (by decide) (Nat.le_of_ble_eq_true rfl) rfl dX7_verify_4 rfl (fun r1 T1 q1 => ?_)
  obtain ⟨rfl, rfl⟩ := q1
  refine ks_istore_n dX7_verify_7 (by decide) rfl ?_
  refine ks_sub [(1, _), (0, _)] rfl ?_
  refine ks_iload_n dX7_verify_8 rfl rfl ?_
  refine ks_if_eqZ (tgt := 27) dX7_verify_9 (by decide) rfl (fun h1 => ?_) (fun h1 => ?_)
  · refine ks_iconst (x := nI 0) dX7_verify_27 (by decide) rfl ?_
    refine ks_zret rfl rfl dX7_verify_28 ?_
    unfold vfS
    rw [h1, if_neg (by decide)]
    exact mcR.no (ks_up.rf _ _) hO
  · have hl := topTr_len h1
    refine ks_aload_n dX7_verify_12 rfl rfl ?_
    refine ks_getf (T := TX7) (kf := 3) kx_646 rfl in_X7 cl_X7 (by decide) hM rfl dX7_verify_13 rfl ?_
    refine ks_iconst (x := nI 1) dX7_verify_16 (by decide) rfl ?_
    refine ks_callV (n := 1) (M' := mX8_drop) (c_st_drop (d := d) (c := 1) hO (by omega)) hO.ob cl_X8 rfl kx_1575 kx_1576 kx_1577 kx_25 kx_1578 (by decide +kernel) rfl (by decide) (Nat.le_of_ble_eq_true rfl) rfl dX7_verify_17 rfl (fun r2 T2 q2 => ?_)
    obtain ⟨rfl, u2, o2⟩ := q2
    have m2 := u2.1.at hM (by decide)
    refine ks_if_eqZ (tgt := 27) dX7_verify_20 (by decide) rfl (fun h2 => ?_) (fun h2 => ?_)
    · exact absurd h2 (by decide)
    · refine ks_iconst (x := nI 1) dX7_verify_23 (by decide) rfl ?_
      refine ks_goto (tgt := 28) dX7_verify_24 (by decide) ?_
      refine ks_zret rfl rfl dX7_verify_28 ?_
      unfold vfS
      rw [h1, if_pos rfl]
      exact mcR.yes u2 (Nat.le_refl _) (Nat.le_refl _) o2
set_option maxRecDepth 100000 in
set_option maxHeartbeats 2000000 in
theorem c_mc_compare {l : Launch} {G : ks_G} {d : Nat} {S : ks_S} {inp cy pa pe pb ops opn cl : Nat} {kT kC sT sC : Int32} (hM : S.2.2 27 = some (mcO inp cy pa pe pb ops opn cl kT kC sT sC)) {xs ys : List (List Nat)} {u : Nat} (hO : st_ok S xs ys u) (hu : u + 1 ≤ 24096) (hl : xs.length < 1004) : ks_P l G yX7_compare mX7_compare (d + 3) [.ref 27] S (mcR LSt S u 1 (cmS xs ys)) := by
  have bd := hO.bd
  refine ks_of (by decide) rfl rfl (Nat.le_of_ble_eq_true rfl) ?_
  show ks_X l G mX7_compare (d + 3) 0 [(0, .ref 27)] [] S _
  refine ks_aload_n dX7_compare_0 rfl rfl ?_
  refine ks_getf (T := TX7) (kf := 3) kx_646 rfl in_X7 cl_X7 (by decide) hM rfl dX7_compare_1 rfl ?_
  refine ks_getf (T := TX8) (kf := 3) kx_615 rfl in_X8 cl_X8 (by decide) hO.ob rfl dX7_compare_4 rfl ?_
  refine ks_iconst (x := nI 2) dX7_compare_7 (by decide) rfl ?_
  refine ks_icmp_geN (tgt := 13) (by omega) (by decide) dX7_compare_8 (by decide) rfl (fun h1 => ?_) (fun h1 => ?_)
  · obtain ⟨x0, x1, xr, hxs⟩ : ∃ a b r, xs = a :: b :: r := by
      match xs, h1 with
      | a :: b :: r, _ => exact ⟨a, b, r, rfl⟩
      | [a], h => simp at h
      | [], h => simp at h
    refine ks_aload_n dX7_compare_13 rfl rfl ?_
    refine ks_getf (T := TX7) (kf := 3) kx_646 rfl in_X7 cl_X7 (by decide) hM rfl dX7_compare_14 rfl ?_
    refine ks_callV (n := 0) (M' := mX8_areTopTwoSame) (c_st_areTopTwoSame (d := d + 2) hO hxs) hO.ob cl_X8 rfl kx_1708 kx_1709 kx_1710 kx_25 kx_1711 (by decide +kernel) rfl (by decide) (Nat.le_of_ble_eq_true rfl) rfl dX7_compare_17 rfl (fun r1 T1 q1 => ?_)
    obtain ⟨rfl, rfl⟩ := q1
    refine ks_istore_n dX7_compare_20 (by decide) rfl ?_
    refine ks_sub [(1, _), (0, _)] rfl ?_
    refine ks_aload_n dX7_compare_21 rfl rfl ?_
    refine ks_getf (T := TX7) (kf := 3) kx_646 rfl in_X7 cl_X7 (by decide) hM rfl dX7_compare_22 rfl ?_
    refine ks_iconst (x := nI 2) dX7_compare_25 (by decide) rfl ?_
    refine ks_callV (n := 1) (M' := mX8_drop) (c_st_drop (d := d + 2) (c := 2) hO (by omega)) hO.ob cl_X8 rfl kx_1575 kx_1576 kx_1577 kx_25 kx_1578 (by decide +kernel) rfl (by decide) (Nat.le_of_ble_eq_true rfl) rfl dX7_compare_26 rfl (fun r2 T2 q2 => ?_)
    obtain ⟨rfl, u2, o2⟩ := q2
    have m2 := u2.1.at hM (by decide)
    refine ks_if_eqZ (tgt := 47) dX7_compare_29 (by decide) rfl (fun h2 => ?_) (fun h2 => ?_)
    · exact absurd h2 (by decide)
    · refine ks_aload_n dX7_compare_32 rfl rfl ?_
      refine ks_getf (T := TX7) (kf := 3) kx_646 rfl in_X7 cl_X7 (by decide) m2 rfl dX7_compare_33 rfl ?_
      refine ks_iload_n dX7_compare_36 rfl rfl ?_
      have hl2 : (xs.drop 2).length < 1004 := by rw [List.length_drop]; omega
      refine ks_callV (n := 1) (M' := mX8_addFlag) (c_st_addFlag (d := d) (b := decide (x0 = x1)) o2 hl2 hu) o2.ob cl_X8 rfl kx_1643 kx_1644 kx_1645 kx_25 kx_1646 (by decide +kernel) rfl (by decide) (Nat.le_of_ble_eq_true rfl) rfl dX7_compare_37 rfl (fun r3 T3 q3 => ?_)
      obtain ⟨rfl, u3, o3⟩ := q3
      have m3 := u3.1.at m2 (by decide)
      refine ks_if_eqZ (tgt := 47) dX7_compare_40 (by decide) rfl (fun h3 => ?_) (fun h3 => ?_)
      · exact absurd h3 (by decide)
      · refine ks_iconst (x := nI 1) dX7_compare_43 (by decide) rfl ?_
        refine ks_goto (tgt := 48) dX7_compare_44 (by decide) ?_
        refine ks_zret rfl rfl dX7_compare_48 ?_
        unfold cmS
        rw [if_neg (by omega)]
        have e0 : xs.getD 0 [] = x0 ∧ xs.getD 1 [] = x1 := by rw [hxs]; exact ⟨rfl, rfl⟩
        rw [e0.1, e0.2]
        have := flagL_len (decide (x0 = x1))
        exact mcR.yes (u2.trans u3 (by omega)) (by omega) (by omega) o3
  · refine ks_iconst (x := nI 0) dX7_compare_11 (by decide) rfl ?_
    refine ks_zret rfl rfl dX7_compare_12 ?_
    unfold cmS
    rw [if_pos (by omega)]
    exact mcR.no (ks_up.rf _ _) hO

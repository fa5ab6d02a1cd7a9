/-! TXVIEW: read -/
def tvR (S : ks_S) : Prop := ∃ vy i1 i2 i9 x fA fS fZ hA hS hZ, S.2.2 20 = some (.inr (13, [vy, .int i1, .int i2, .ref 21, .ref 22, .ref 23, .ref 24, .ref 25, .ref 26, .int i9, .int x])) ∧ S.2.2 21 = some (kN 40 fA) ∧ S.2.2 22 = some (kN 40 fS) ∧ S.2.2 23 = some (kN 40 fZ) ∧ S.2.2 24 = some (kN 180 hA) ∧ S.2.2 25 = some (kN 180 hS) ∧ S.2.2 26 = some (kN 180 hZ)
def tvI (g : Nat → Nat) (L p j : Nat) (fA fS fZ : Nat → Nat) : Prop := ∀ i, i < j → ip g L p i = some (fA i) ∧ rc g (fA i + 36) L L = some (fZ i, fS i)
def tvU (g : Nat → Nat) (L p j : Nat) (fA fS fZ : Nat → Nat) : Prop := ∀ i, i < j → ot g L p i = some (fA i) ∧ rc g (fA i + 8) L L = some (fZ i, fS i)
/-- the view of a transaction that was read -/
def tv_ok (S : ks_S) (y : Nat) (g : Nat → Nat) (L b k p m u e : Nat) : Prop := S.2.2 20 = some (tvO y (.int (nI k)) (.int (nI m)) (.int (nI b)) (.int (nI e))) ∧ tx_ g b L = some (k, p, m, u, e) ∧ ∃ fA fS fZ hA hS hZ, S.2.2 21 = some (kN 40 fA) ∧ S.2.2 22 = some (kN 40 fS) ∧ S.2.2 23 = some (kN 40 fZ) ∧ S.2.2 24 = some (kN 180 hA) ∧ S.2.2 25 = some (kN 180 hS) ∧ S.2.2 26 = some (kN 180 hZ) ∧ tvI g L p k fA fS fZ ∧ tvU g L u m hA hS hZ
theorem tvI.up {g : Nat → Nat} {L p j a n s : Nat} {fA fS fZ : Nat → Nat} (h : tvI g L p j fA fS fZ) (h1 : ip g L p j = some a) (h2 : rc g (a + 36) L L = some (n, s)) : tvI g L p (j + 1) (va_up fA j a) (va_up fS j s) (va_up fZ j n) := fun i hi => by
  rcases Nat.lt_succ_iff_lt_or_eq.mp hi with h3 | h3
  · rw [va_up_ne _ _ (by omega), va_up_ne _ _ (by omega), va_up_ne _ _ (by omega)]; exact h i h3
  · subst h3; rw [va_up_self, va_up_self, va_up_self]; exact ⟨h1, h2⟩
theorem tvU.up {g : Nat → Nat} {L p j a n s : Nat} {fA fS fZ : Nat → Nat} (h : tvU g L p j fA fS fZ) (h1 : ot g L p j = some a) (h2 : rc g (a + 8) L L = some (n, s)) : tvU g L p (j + 1) (va_up fA j a) (va_up fS j s) (va_up fZ j n) := fun i hi => by
  rcases Nat.lt_succ_iff_lt_or_eq.mp hi with h3 | h3
  · rw [va_up_ne _ _ (by omega), va_up_ne _ _ (by omega), va_up_ne _ _ (by omega)]; exact h i h3
  · subst h3; rw [va_up_self, va_up_self, va_up_self]; exact ⟨h1, h2⟩
theorem tv_ok.raw {S : ks_S} {y : Nat} {g : Nat → Nat} {L b k p m u e : Nat} (h : tv_ok S y g L b k p m u e) : tvR S := by
  obtain ⟨a, -, fA, fS, fZ, hA, hS, hZ, c1, c2, c3, c4, c5, c6, -⟩ := h
  exact ⟨_, _, _, _, _, _, _, _, _, _, _, a, c1, c2, c3, c4, c5, c6⟩
/-- what read answers and leaves -/
def rdP (S : ks_S) (y : Nat) (g : Nat → Nat) (L b : Nat) : Option Value → ks_S → Prop := fun z S' => ks_up S S' [20, 21, 22, 23, 24, 25, 26] ∧ ((tx_ g b L = none ∧ z = some (.int (-1)) ∧ tvR S') ∨ ∃ k p m u e, tx_ g b L = some (k, p, m, u, e) ∧ z = some (.int (nI e)) ∧ tv_ok S' y g L b k p m u e)
theorem ks_upL {S S1 : ks_S} {a : Nat} {e : ks_E} {L : List Nat} (h : ks_up S S1 L) (ha : a ∈ L) : ks_up S (ks_set S1 a e) L := h.trans (ks_up_set _ _ ha)
set_option maxRecDepth 100000 in
set_option maxHeartbeats 40000000 in
theorem l_rdEnd {l : Launch} {G : ks_G} {d : Nat} {S : ks_S} {y N L b : Nat} {g : Nat → Nat} (hy : S.2.2 y = some (kB N g)) (hg : kO g) (hL : L ≤ N) (hN : N < 2 ^ 18) (hb : b ≤ L) (hyL : y ∉ ([20, 21, 22, 23, 24, 25, 26] : List Nat)) {k p m u x q : Nat} (hk : rc g (b + 4) L 40 = some (k, p)) (hq : ip g L p k = some q) (hm : rc g q L 180 = some (m, u)) (hx : ot g L u m = some x) (hx2 : x ≤ 2 * L + 4) : ∀ (S1 : ks_S) (fA fS fZ hA hS hZ : Nat → Nat), ks_up S S1 [20, 21, 22, 23, 24, 25, 26] → S1.2.2 20 = some (tvO y (.int (nI k)) (.int (nI m)) (.int (nI b)) (.int (nI x))) → S1.2.2 21 = some (kN 40 fA) → S1.2.2 22 = some (kN 40 fS) → S1.2.2 23 = some (kN 40 fZ) → S1.2.2 24 = some (kN 180 hA) → S1.2.2 25 = some (kN 180 hS) → S1.2.2 26 = some (kN 180 hZ) → tvI g L p k fA fS fZ → tvU g L u m hA hS hZ → ks_X l G mX10_read (d + 2) 242 [(0, .ref 20), (1, .ref y), (2, .int (nI b)), (3, .int (nI L))] [] S1 (rdP S y g L b) := by
  intro S1 fA fS fZ hA hS hZ hu h20 h21 h22 h23 h24 h25 h26 hI hU
  have km := rc_some hm
  have kk := rc_some hk
  refine ks_aload_n dX10_read_242 rfl rfl ?_
  refine ks_dup dX10_read_243 rfl rfl ?_
  refine ks_getf (T := TX10) (kf := 10) kx_572 rfl in_X10 cl_X10 (by decide) h20 rfl dX10_read_244 rfl ?_
  refine ks_iconst (x := nI 4) dX10_read_247 (by decide) rfl ?_
  refine ks_addN dX10_read_248 rfl ?_
  refine ks_putf (T := TX10) (kf := 10) kx_572 rfl in_X10 tyX10_ok nmX10 cl_X10 (by decide) h20 (Nat.le_of_ble_eq_true rfl) rfl rfl rfl rfl dX10_read_249 rfl ?_
  refine ks_aload_n dX10_read_252 rfl rfl ?_
  refine ks_getf (T := TX10) (kf := 2) kx_559 rfl in_X10 cl_X10 (by decide) (ks_set_same _ _ _) rfl dX10_read_253 rfl ?_
  refine ks_if_ltN (tgt := 267) (by omega) dX10_read_256 (by decide) rfl ?_
  refine ks_aload_n dX10_read_259 rfl rfl ?_
  refine ks_getf (T := TX10) (kf := 10) kx_572 rfl in_X10 cl_X10 (by decide) (ks_set_same _ _ _) rfl dX10_read_260 rfl ?_
  refine ks_iload_n dX10_read_263 rfl rfl ?_
  refine ks_icmp_leN (tgt := 271) (by omega) (by omega) dX10_read_264 (by decide) rfl (fun hc264 => ?_) (fun hc264 => ?_)
  · refine ks_aload_n dX10_read_271 rfl rfl ?_
    refine ks_getf (T := TX10) (kf := 10) kx_572 rfl in_X10 cl_X10 (by decide) (ks_set_same _ _ _) rfl dX10_read_272 rfl ?_
    refine ks_iret rfl dX10_read_275 ?_
    have htx : tx_ g b L = some (k, p, m, u, x + 4) := by
      simp only [tx_, hk, hq, hm, hx]
      rw [if_pos (by omega)]
    refine ⟨(ks_upL hu (by decide)), Or.inr ⟨k, p, m, u, x + 4, htx, rfl, (ks_set_same _ _ _), htx, fA, fS, fZ, hA, hS, hZ, ((ks_set_ne _ _ (by decide)).trans h21), ((ks_set_ne _ _ (by decide)).trans h22), ((ks_set_ne _ _ (by decide)).trans h23), ((ks_set_ne _ _ (by decide)).trans h24), ((ks_set_ne _ _ (by decide)).trans h25), ((ks_set_ne _ _ (by decide)).trans h26), hI, hU⟩⟩
  · refine ks_iconst (x := (-1)) dX10_read_267 (by decide) rfl ?_
    refine ks_goto (tgt := 275) dX10_read_268 (by decide) ?_
    refine ks_iret rfl dX10_read_275 ?_
    refine ⟨(ks_upL hu (by decide)), Or.inl ⟨?_, rfl, ⟨_, _, _, _, _, _, _, _, _, _, _, (ks_set_same _ _ _), ((ks_set_ne _ _ (by decide)).trans h21), ((ks_set_ne _ _ (by decide)).trans h22), ((ks_set_ne _ _ (by decide)).trans h23), ((ks_set_ne _ _ (by decide)).trans h24), ((ks_set_ne _ _ (by decide)).trans h25), ((ks_set_ne _ _ (by decide)).trans h26)⟩⟩⟩
    simp only [tx_, hk, hq, hm, hx]
    rw [if_neg (by omega)]
set_option maxRecDepth 100000 in
set_option maxHeartbeats 40000000 in
theorem l_rdOut {l : Launch} {G : ks_G} {d : Nat} {S : ks_S} {y N L b : Nat} {g : Nat → Nat} (hy : S.2.2 y = some (kB N g)) (hg : kO g) (hL : L ≤ N) (hN : N < 2 ^ 18) (hb : b ≤ L) (hyL : y ∉ ([20, 21, 22, 23, 24, 25, 26] : List Nat)) {k p m u q : Nat} (hk : rc g (b + 4) L 40 = some (k, p)) (hq : ip g L p k = some q) (hm : rc g q L 180 = some (m, u)) : ∀ c j, j + c = m → ∀ (S1 : ks_S) (x : Nat) (fA fS fZ hA hS hZ : Nat → Nat), ot g L u j = some x → x ≤ 2 * L + 4 → ks_up S S1 [20, 21, 22, 23, 24, 25, 26] → S1.2.2 20 = some (tvO y (.int (nI k)) (.int (nI m)) (.int (nI b)) (.int (nI x))) → S1.2.2 21 = some (kN 40 fA) → S1.2.2 22 = some (kN 40 fS) → S1.2.2 23 = some (kN 40 fZ) → S1.2.2 24 = some (kN 180 hA) → S1.2.2 25 = some (kN 180 hS) → S1.2.2 26 = some (kN 180 hZ) → tvI g L p k fA fS fZ → tvU g L u j hA hS hZ → ks_X l G mX10_read (d + 2) 153 [(4, .int (nI j)), (0, .ref 20), (1, .ref y), (2, .int (nI b)), (3, .int (nI L))] [] S1 (rdP S y g L b) := by
  have n_y : y ≠ 20 ∧ y ≠ 21 ∧ y ≠ 22 ∧ y ≠ 23 ∧ y ≠ 24 ∧ y ≠ 25 ∧ y ≠ 26 := by simpa using hyL
  obtain ⟨n_y_20, n_y_21, n_y_22, n_y_23, n_y_24, n_y_25, n_y_26⟩ := n_y
  have km := rc_some hm
  intro c
  induction c with
  | zero =>
    intro j hj S1 x fA fS fZ hA hS hZ hx hx2 hu h20 h21 h22 h23 h24 h25 h26 hI hU
    have h9 := hu.at hy hyL
    refine ks_iload dX10_read_153 rfl rfl ?_
    refine ks_aload_n dX10_read_155 rfl rfl ?_
    refine ks_getf (T := TX10) (kf := 2) kx_559 rfl in_X10 cl_X10 (by decide) h20 rfl dX10_read_156 rfl ?_
    refine ks_icmp_geN (tgt := 242) (by omega) (by omega) dX10_read_159 (by decide) rfl (fun hc => ?_) (fun hc => ?_)
    · obtain rfl : j = m := by omega
      refine ks_sub [(0, _), (1, _), (2, _), (3, _)] rfl ?_
      exact l_rdEnd hy hg hL hN hb hyL hk hq hm hx hx2 S1 fA fS fZ hA hS hZ hu h20 h21 h22 h23 h24 h25 h26 hI hU
    · exact absurd (show m ≤ j by omega) hc
  | succ c ih =>
    intro j hj S1 x fA fS fZ hA hS hZ hx hx2 hu h20 h21 h22 h23 h24 h25 h26 hI hU
    have h9 := hu.at hy hyL
    refine ks_iload dX10_read_153 rfl rfl ?_
    refine ks_aload_n dX10_read_155 rfl rfl ?_
    refine ks_getf (T := TX10) (kf := 2) kx_559 rfl in_X10 cl_X10 (by decide) h20 rfl dX10_read_156 rfl ?_
    refine ks_icmp_geN (tgt := 242) (by omega) (by omega) dX10_read_159 (by decide) rfl (fun hc => ?_) (fun hc => ?_)
    · exact absurd hc (by omega)
    · refine ks_aload_n dX10_read_162 rfl rfl ?_
      refine ks_getf (T := TX10) (kf := 6) kx_567 rfl in_X10 cl_X10 (by decide) h20 rfl dX10_read_163 rfl ?_
      refine ks_iload dX10_read_166 rfl rfl ?_
      refine ks_aload_n dX10_read_168 rfl rfl ?_
      refine ks_getf (T := TX10) (kf := 10) kx_572 rfl in_X10 cl_X10 (by decide) h20 rfl dX10_read_169 rfl ?_
      refine ks_iastNN (i := j) (v := x) (by decide) h24 (by omega) (by decide) dX10_read_172 rfl ?_
      refine ks_aload_n dX10_read_173 rfl rfl ?_
      refine ks_dup dX10_read_174 rfl rfl ?_
      refine ks_getf (T := TX10) (kf := 10) kx_572 rfl in_X10 cl_X10 (by decide) ((ks_set_ne _ _ (by decide)).trans h20) rfl dX10_read_175 rfl ?_
      refine ks_bipush (x := nI 8) dX10_read_178 (by decide) rfl ?_
      refine ks_addN dX10_read_180 rfl ?_
      refine ks_putf (T := TX10) (kf := 10) kx_572 rfl in_X10 tyX10_ok nmX10 cl_X10 (by decide) ((ks_set_ne _ _ (by decide)).trans h20) (Nat.le_of_ble_eq_true rfl) rfl rfl rfl rfl dX10_read_181 rfl ?_
      refine ks_aload_n dX10_read_184 rfl rfl ?_
      refine ks_getf (T := TX10) (kf := 8) kx_570 rfl in_X10 cl_X10 (by decide) (ks_set_same _ _ _) rfl dX10_read_185 rfl ?_
      refine ks_iload dX10_read_188 rfl rfl ?_
      refine ks_aload_n dX10_read_190 rfl rfl ?_
      refine ks_iload_n dX10_read_191 rfl rfl ?_
      refine ks_iload_n dX10_read_192 rfl rfl ?_
      refine ks_callV (n := 2) (M' := mX10_readCount) (c_readCount (x := x + 8) (L := L) (most := L) (d := d) (ks_set_same _ _ _) ((ks_set_ne _ _ n_y_20).trans ((ks_set_ne _ _ n_y_24).trans h9)) hg hL (by omega) (by omega) (by omega)) (ks_set_same _ _ _) cl_X10 rfl kx_993 kx_995 kxp_11 kx_23 kx_996 (by decide +kernel) rfl (by decide) (Nat.le_of_ble_eq_true rfl) rfl dX10_read_193 rfl (fun r1 S2 h2 => ?_)
      rcases h2 with ⟨n, s, hr, rfl, rfl⟩ | ⟨hr, rfl, s, hs, rfl⟩
      · have rs := rc_some hr
        refine ks_iastNN (i := j) (v := n) (by decide) ((ks_set_ne _ _ (by decide)).trans ((ks_set_ne _ _ (by decide)).trans ((ks_set_ne _ _ (by decide)).trans h26))) (by omega) (by decide) dX10_read_196 rfl ?_
        refine ks_aload_n dX10_read_197 rfl rfl ?_
        refine ks_getf (T := TX10) (kf := 8) kx_570 rfl in_X10 cl_X10 (by decide) ((ks_set_ne _ _ (by decide)).trans (ks_set_same _ _ _)) rfl dX10_read_198 rfl ?_
        refine ks_iload dX10_read_201 rfl rfl ?_
        refine ks_ialdN (i := j) (ks_set_same _ _ _) rfl (by omega) (by decide) dX10_read_203 rfl ?_
        refine ks_ti (congrArg nI (va_up_self _ _ _)) ?_
        refine ks_if_geN (tgt := 209) (by omega) dX10_read_204 (by decide) ?_
        refine ks_aload_n dX10_read_209 rfl rfl ?_
        refine ks_getf (T := TX10) (kf := 7) kx_569 rfl in_X10 cl_X10 (by decide) ((ks_set_ne _ _ (by decide)).trans (ks_set_same _ _ _)) rfl dX10_read_210 rfl ?_
        refine ks_iload dX10_read_213 rfl rfl ?_
        refine ks_aload_n dX10_read_215 rfl rfl ?_
        refine ks_getf (T := TX10) (kf := 10) kx_572 rfl in_X10 cl_X10 (by decide) ((ks_set_ne _ _ (by decide)).trans (ks_set_same _ _ _)) rfl dX10_read_216 rfl ?_
        refine ks_iastNN (i := j) (v := s) (by decide) ((ks_set_ne _ _ (by decide)).trans ((ks_set_ne _ _ (by decide)).trans ((ks_set_ne _ _ (by decide)).trans ((ks_set_ne _ _ (by decide)).trans h25)))) (by omega) (by decide) dX10_read_219 rfl ?_
        refine ks_aload_n dX10_read_220 rfl rfl ?_
        refine ks_dup dX10_read_221 rfl rfl ?_
        refine ks_getf (T := TX10) (kf := 10) kx_572 rfl in_X10 cl_X10 (by decide) ((ks_set_ne _ _ (by decide)).trans ((ks_set_ne _ _ (by decide)).trans (ks_set_same _ _ _))) rfl dX10_read_222 rfl ?_
        refine ks_aload_n dX10_read_225 rfl rfl ?_
        refine ks_getf (T := TX10) (kf := 8) kx_570 rfl in_X10 cl_X10 (by decide) ((ks_set_ne _ _ (by decide)).trans ((ks_set_ne _ _ (by decide)).trans (ks_set_same _ _ _))) rfl dX10_read_226 rfl ?_
        refine ks_iload dX10_read_229 rfl rfl ?_
        refine ks_ialdN (i := j) ((ks_set_ne _ _ (by decide)).trans (ks_set_same _ _ _)) rfl (by omega) (by decide) dX10_read_231 rfl ?_
        refine ks_ti (congrArg nI (va_up_self _ _ _)) ?_
        refine ks_addN dX10_read_232 rfl ?_
        refine ks_putf (T := TX10) (kf := 10) kx_572 rfl in_X10 tyX10_ok nmX10 cl_X10 (by decide) ((ks_set_ne _ _ (by decide)).trans ((ks_set_ne _ _ (by decide)).trans (ks_set_same _ _ _))) (Nat.le_of_ble_eq_true rfl) rfl rfl rfl rfl dX10_read_233 rfl ?_
        refine ks_incN (c := 1) (e := j + 1) dX10_read_236 rfl (by decide) rfl (by decide) rfl ?_
        refine ks_sub [(4, _), (0, _), (1, _), (2, _), (3, _)] rfl ?_
        refine ks_goto (tgt := 153) dX10_read_239 (by decide) ?_
        refine ks_sub [(4, _), (0, _), (1, _), (2, _), (3, _)] rfl (ih (j + 1) (by omega) _ (s + n) fA fS fZ _ _ _ (ot_s hx hr) (by omega) (ks_upL (ks_upL (ks_upL (ks_upL (ks_upL (ks_upL hu (by decide)) (by decide)) (by decide)) (by decide)) (by decide)) (by decide)) (ks_set_same _ _ _) ((ks_set_ne _ _ (by decide)).trans ((ks_set_ne _ _ (by decide)).trans ((ks_set_ne _ _ (by decide)).trans ((ks_set_ne _ _ (by decide)).trans ((ks_set_ne _ _ (by decide)).trans ((ks_set_ne _ _ (by decide)).trans h21)))))) ((ks_set_ne _ _ (by decide)).trans ((ks_set_ne _ _ (by decide)).trans ((ks_set_ne _ _ (by decide)).trans ((ks_set_ne _ _ (by decide)).trans ((ks_set_ne _ _ (by decide)).trans ((ks_set_ne _ _ (by decide)).trans h22)))))) ((ks_set_ne _ _ (by decide)).trans ((ks_set_ne _ _ (by decide)).trans ((ks_set_ne _ _ (by decide)).trans ((ks_set_ne _ _ (by decide)).trans ((ks_set_ne _ _ (by decide)).trans ((ks_set_ne _ _ (by decide)).trans h23)))))) ((ks_set_ne _ _ (by decide)).trans ((ks_set_ne _ _ (by decide)).trans ((ks_set_ne _ _ (by decide)).trans ((ks_set_ne _ _ (by decide)).trans ((ks_set_ne _ _ (by decide)).trans (ks_set_same _ _ _)))))) ((ks_set_ne _ _ (by decide)).trans (ks_set_same _ _ _)) ((ks_set_ne _ _ (by decide)).trans ((ks_set_ne _ _ (by decide)).trans (ks_set_same _ _ _))) hI (hU.up hx hr))
      · refine ks_ti (y := nI 4294967295) rfl ?_
        refine ks_iastNN (i := j) (v := 4294967295) (by decide) ((ks_set_ne _ _ (by decide)).trans ((ks_set_ne _ _ (by decide)).trans ((ks_set_ne _ _ (by decide)).trans h26))) (by omega) (by decide) dX10_read_196 rfl ?_
        refine ks_aload_n dX10_read_197 rfl rfl ?_
        refine ks_getf (T := TX10) (kf := 8) kx_570 rfl in_X10 cl_X10 (by decide) ((ks_set_ne _ _ (by decide)).trans (ks_set_same _ _ _)) rfl dX10_read_198 rfl ?_
        refine ks_iload dX10_read_201 rfl rfl ?_
        refine ks_ialdN (i := j) (ks_set_same _ _ _) rfl (by omega) (by decide) dX10_read_203 rfl ?_
        refine ks_ti (congrArg nI (va_up_self _ _ _)) ?_
        refine ks_if_ge (tgt := 209) dX10_read_204 (by decide) rfl (fun he => ?_) (fun he => ?_)
        · exact absurd he (by decide)
        · refine ks_iconst (x := (-1)) dX10_read_207 (by decide) rfl ?_
          refine ks_iret rfl dX10_read_208 ?_
          refine ⟨(ks_upL (ks_upL (ks_upL (ks_upL hu (by decide)) (by decide)) (by decide)) (by decide)), Or.inl ⟨?_, rfl, ⟨_, _, _, _, _, _, _, _, _, _, _, ((ks_set_ne _ _ (by decide)).trans (ks_set_same _ _ _)), ((ks_set_ne _ _ (by decide)).trans ((ks_set_ne _ _ (by decide)).trans ((ks_set_ne _ _ (by decide)).trans ((ks_set_ne _ _ (by decide)).trans h21)))), ((ks_set_ne _ _ (by decide)).trans ((ks_set_ne _ _ (by decide)).trans ((ks_set_ne _ _ (by decide)).trans ((ks_set_ne _ _ (by decide)).trans h22)))), ((ks_set_ne _ _ (by decide)).trans ((ks_set_ne _ _ (by decide)).trans ((ks_set_ne _ _ (by decide)).trans ((ks_set_ne _ _ (by decide)).trans h23)))), ((ks_set_ne _ _ (by decide)).trans ((ks_set_ne _ _ (by decide)).trans ((ks_set_ne _ _ (by decide)).trans (ks_set_same _ _ _)))), ((ks_set_ne _ _ (by decide)).trans ((ks_set_ne _ _ (by decide)).trans ((ks_set_ne _ _ (by decide)).trans ((ks_set_ne _ _ (by decide)).trans h25)))), (ks_set_same _ _ _)⟩⟩⟩
          simp only [tx_, hk, hq, hm, ot_n hx hr m (by omega)]
set_option maxRecDepth 100000 in
set_option maxHeartbeats 40000000 in
theorem l_rdMid {l : Launch} {G : ks_G} {d : Nat} {S : ks_S} {y N L b : Nat} {g : Nat → Nat} (hy : S.2.2 y = some (kB N g)) (hg : kO g) (hL : L ≤ N) (hN : N < 2 ^ 18) (hb : b ≤ L) (hyL : y ∉ ([20, 21, 22, 23, 24, 25, 26] : List Nat)) {k p q : Nat} (hk : rc g (b + 4) L 40 = some (k, p)) (hq : ip g L p k = some q) (hq2 : q ≤ 2 * L + 4) {i2 : Int32} : ∀ (S1 : ks_S) (fA fS fZ hA hS hZ : Nat → Nat), ks_up S S1 [20, 21, 22, 23, 24, 25, 26] → S1.2.2 20 = some (tvO y (.int (nI k)) (.int i2) (.int (nI b)) (.int (nI q))) → S1.2.2 21 = some (kN 40 fA) → S1.2.2 22 = some (kN 40 fS) → S1.2.2 23 = some (kN 40 fZ) → S1.2.2 24 = some (kN 180 hA) → S1.2.2 25 = some (kN 180 hS) → S1.2.2 26 = some (kN 180 hZ) → tvI g L p k fA fS fZ → ks_X l G mX10_read (d + 2) 125 [(0, .ref 20), (1, .ref y), (2, .int (nI b)), (3, .int (nI L))] [] S1 (rdP S y g L b) := by
  have n_y : y ≠ 20 ∧ y ≠ 21 ∧ y ≠ 22 ∧ y ≠ 23 ∧ y ≠ 24 ∧ y ≠ 25 ∧ y ≠ 26 := by simpa using hyL
  obtain ⟨n_y_20, n_y_21, n_y_22, n_y_23, n_y_24, n_y_25, n_y_26⟩ := n_y
  intro S1 fA fS fZ hA hS hZ hu h20 h21 h22 h23 h24 h25 h26 hI
  have h9 := hu.at hy hyL
  have kk := rc_some hk
  refine ks_aload_n dX10_read_125 rfl rfl ?_
  refine ks_aload_n dX10_read_126 rfl rfl ?_
  refine ks_getf (T := TX10) (kf := 1) kx_557 rfl in_X10 cl_X10 (by decide) h20 rfl dX10_read_127 rfl ?_
  refine ks_if_geN (tgt := 137) (by omega) dX10_read_130 (by decide) ?_
  refine ks_aload_n dX10_read_137 rfl rfl ?_
  refine ks_iload_n dX10_read_138 rfl rfl ?_
  refine ks_aload_n dX10_read_139 rfl rfl ?_
  refine ks_getf (T := TX10) (kf := 6) kx_567 rfl in_X10 cl_X10 (by decide) h20 rfl dX10_read_140 rfl ?_
  refine ks_alen (by decide) h24 rfl (by decide) dX10_read_143 rfl ?_
  refine ks_callV (n := 2) (M' := mX10_readCount) (c_readCount (x := q) (L := L) (most := 180) (d := d) h20 h9 hg hL (by omega) (by omega) (by omega)) h20 cl_X10 rfl kx_993 kx_995 kxp_11 kx_23 kx_996 (by decide +kernel) rfl (by decide) (Nat.le_of_ble_eq_true rfl) rfl dX10_read_144 rfl (fun r1 S2 h2 => ?_)
  rcases h2 with ⟨n, s, hr, rfl, rfl⟩ | ⟨hr, rfl, s, hs, rfl⟩
  · have rs := rc_some hr
    refine ks_putf (T := TX10) (kf := 2) kx_559 rfl in_X10 tyX10_ok nmX10 cl_X10 (by decide) (ks_set_same _ _ _) (Nat.le_of_ble_eq_true rfl) rfl rfl rfl rfl dX10_read_147 rfl ?_
    refine ks_iconst (x := nI 0) dX10_read_150 (by decide) rfl ?_
    refine ks_istore dX10_read_151 (by decide) rfl ?_
    refine ks_sub [(4, _), (0, _), (1, _), (2, _), (3, _)] rfl ?_
    refine ks_sub [(4, _), (0, _), (1, _), (2, _), (3, _)] rfl (l_rdOut hy hg hL hN hb hyL hk hq hr n 0 (by omega) _ s fA fS fZ hA hS hZ rfl (by omega) (ks_upL (ks_upL hu (by decide)) (by decide)) (ks_set_same _ _ _) ((ks_set_ne _ _ (by decide)).trans ((ks_set_ne _ _ (by decide)).trans h21)) ((ks_set_ne _ _ (by decide)).trans ((ks_set_ne _ _ (by decide)).trans h22)) ((ks_set_ne _ _ (by decide)).trans ((ks_set_ne _ _ (by decide)).trans h23)) ((ks_set_ne _ _ (by decide)).trans ((ks_set_ne _ _ (by decide)).trans h24)) ((ks_set_ne _ _ (by decide)).trans ((ks_set_ne _ _ (by decide)).trans h25)) ((ks_set_ne _ _ (by decide)).trans ((ks_set_ne _ _ (by decide)).trans h26)) hI (fun i hi => absurd hi (Nat.not_lt_zero i)))
  · refine ks_putf (T := TX10) (kf := 2) kx_559 rfl in_X10 tyX10_ok nmX10 cl_X10 (by decide) (ks_set_same _ _ _) (Nat.le_of_ble_eq_true rfl) rfl rfl rfl rfl dX10_read_147 rfl ?_
    refine ks_iconst (x := nI 0) dX10_read_150 (by decide) rfl ?_
    refine ks_istore dX10_read_151 (by decide) rfl ?_
    refine ks_sub [(4, _), (0, _), (1, _), (2, _), (3, _)] rfl ?_
    refine ks_iload dX10_read_153 rfl rfl ?_
    refine ks_aload_n dX10_read_155 rfl rfl ?_
    refine ks_getf (T := TX10) (kf := 2) kx_559 rfl in_X10 cl_X10 (by decide) (ks_set_same _ _ _) rfl dX10_read_156 rfl ?_
    refine ks_icmp_ge (tgt := 242) dX10_read_159 (by decide) rfl (fun hc159 => ?_) (fun hc159 => ?_)
    · refine ks_aload_n dX10_read_242 rfl rfl ?_
      refine ks_dup dX10_read_243 rfl rfl ?_
      refine ks_getf (T := TX10) (kf := 10) kx_572 rfl in_X10 cl_X10 (by decide) (ks_set_same _ _ _) rfl dX10_read_244 rfl ?_
      refine ks_iconst (x := nI 4) dX10_read_247 (by decide) rfl ?_
      refine ks_addN dX10_read_248 rfl ?_
      refine ks_putf (T := TX10) (kf := 10) kx_572 rfl in_X10 tyX10_ok nmX10 cl_X10 (by decide) (ks_set_same _ _ _) (Nat.le_of_ble_eq_true rfl) rfl rfl rfl rfl dX10_read_249 rfl ?_
      refine ks_aload_n dX10_read_252 rfl rfl ?_
      refine ks_getf (T := TX10) (kf := 2) kx_559 rfl in_X10 cl_X10 (by decide) (ks_set_same _ _ _) rfl dX10_read_253 rfl ?_
      refine ks_if_lt (tgt := 267) dX10_read_256 (by decide) rfl (fun hc256 => ?_) (fun hc256 => ?_)
      · refine ks_iconst (x := (-1)) dX10_read_267 (by decide) rfl ?_
        refine ks_goto (tgt := 275) dX10_read_268 (by decide) ?_
        refine ks_iret rfl dX10_read_275 ?_
        refine ⟨(ks_upL (ks_upL (ks_upL hu (by decide)) (by decide)) (by decide)), Or.inl ⟨?_, rfl, ⟨_, _, _, _, _, _, _, _, _, _, _, (ks_set_same _ _ _), ((ks_set_ne _ _ (by decide)).trans ((ks_set_ne _ _ (by decide)).trans ((ks_set_ne _ _ (by decide)).trans h21))), ((ks_set_ne _ _ (by decide)).trans ((ks_set_ne _ _ (by decide)).trans ((ks_set_ne _ _ (by decide)).trans h22))), ((ks_set_ne _ _ (by decide)).trans ((ks_set_ne _ _ (by decide)).trans ((ks_set_ne _ _ (by decide)).trans h23))), ((ks_set_ne _ _ (by decide)).trans ((ks_set_ne _ _ (by decide)).trans ((ks_set_ne _ _ (by decide)).trans h24))), ((ks_set_ne _ _ (by decide)).trans ((ks_set_ne _ _ (by decide)).trans ((ks_set_ne _ _ (by decide)).trans h25))), ((ks_set_ne _ _ (by decide)).trans ((ks_set_ne _ _ (by decide)).trans ((ks_set_ne _ _ (by decide)).trans h26)))⟩⟩⟩
        simp only [tx_, hk, hq, hr]
      · exact absurd (by decide) hc256
    · exact absurd (by decide) hc159
set_option maxRecDepth 100000 in
set_option maxHeartbeats 40000000 in
theorem l_rdIn {l : Launch} {G : ks_G} {d : Nat} {S : ks_S} {y N L b : Nat} {g : Nat → Nat} (hy : S.2.2 y = some (kB N g)) (hg : kO g) (hL : L ≤ N) (hN : N < 2 ^ 18) (hb : b ≤ L) (hyL : y ∉ ([20, 21, 22, 23, 24, 25, 26] : List Nat)) {k p : Nat} (hk : rc g (b + 4) L 40 = some (k, p)) {i2 : Int32} : ∀ c j, j + c = k → ∀ (S1 : ks_S) (x : Nat) (fA fS fZ hA hS hZ : Nat → Nat), ip g L p j = some x → x ≤ 2 * L + 4 → ks_up S S1 [20, 21, 22, 23, 24, 25, 26] → S1.2.2 20 = some (tvO y (.int (nI k)) (.int i2) (.int (nI b)) (.int (nI x))) → S1.2.2 21 = some (kN 40 fA) → S1.2.2 22 = some (kN 40 fS) → S1.2.2 23 = some (kN 40 fZ) → S1.2.2 24 = some (kN 180 hA) → S1.2.2 25 = some (kN 180 hS) → S1.2.2 26 = some (kN 180 hZ) → tvI g L p j fA fS fZ → ks_X l G mX10_read (d + 2) 34 [(4, .int (nI j)), (0, .ref 20), (1, .ref y), (2, .int (nI b)), (3, .int (nI L))] [] S1 (rdP S y g L b) := by
  have n_y : y ≠ 20 ∧ y ≠ 21 ∧ y ≠ 22 ∧ y ≠ 23 ∧ y ≠ 24 ∧ y ≠ 25 ∧ y ≠ 26 := by simpa using hyL
  obtain ⟨n_y_20, n_y_21, n_y_22, n_y_23, n_y_24, n_y_25, n_y_26⟩ := n_y
  have kk := rc_some hk
  intro c
  induction c with
  | zero =>
    intro j hj S1 x fA fS fZ hA hS hZ hx hx2 hu h20 h21 h22 h23 h24 h25 h26 hI
    have h9 := hu.at hy hyL
    refine ks_iload dX10_read_34 rfl rfl ?_
    refine ks_aload_n dX10_read_36 rfl rfl ?_
    refine ks_getf (T := TX10) (kf := 1) kx_557 rfl in_X10 cl_X10 (by decide) h20 rfl dX10_read_37 rfl ?_
    refine ks_icmp_geN (tgt := 125) (by omega) (by omega) dX10_read_40 (by decide) rfl (fun hc => ?_) (fun hc => ?_)
    · obtain rfl : j = k := by omega
      refine ks_sub [(0, _), (1, _), (2, _), (3, _)] rfl ?_
      exact l_rdMid hy hg hL hN hb hyL hk hx hx2 S1 fA fS fZ hA hS hZ hu h20 h21 h22 h23 h24 h25 h26 hI
    · exact absurd (show k ≤ j by omega) hc
  | succ c ih =>
    intro j hj S1 x fA fS fZ hA hS hZ hx hx2 hu h20 h21 h22 h23 h24 h25 h26 hI
    have h9 := hu.at hy hyL
    refine ks_iload dX10_read_34 rfl rfl ?_
    refine ks_aload_n dX10_read_36 rfl rfl ?_
    refine ks_getf (T := TX10) (kf := 1) kx_557 rfl in_X10 cl_X10 (by decide) h20 rfl dX10_read_37 rfl ?_
    refine ks_icmp_geN (tgt := 125) (by omega) (by omega) dX10_read_40 (by decide) rfl (fun hc => ?_) (fun hc => ?_)
    · exact absurd hc (by omega)
    · refine ks_aload_n dX10_read_43 rfl rfl ?_
      refine ks_getf (T := TX10) (kf := 3) kx_561 rfl in_X10 cl_X10 (by decide) h20 rfl dX10_read_44 rfl ?_
      refine ks_iload dX10_read_47 rfl rfl ?_
      refine ks_aload_n dX10_read_49 rfl rfl ?_
      refine ks_getf (T := TX10) (kf := 10) kx_572 rfl in_X10 cl_X10 (by decide) h20 rfl dX10_read_50 rfl ?_
      refine ks_iastNN (i := j) (v := x) (by decide) h21 (by omega) (by decide) dX10_read_53 rfl ?_
      refine ks_aload_n dX10_read_54 rfl rfl ?_
      refine ks_dup dX10_read_55 rfl rfl ?_
      refine ks_getf (T := TX10) (kf := 10) kx_572 rfl in_X10 cl_X10 (by decide) ((ks_set_ne _ _ (by decide)).trans h20) rfl dX10_read_56 rfl ?_
      refine ks_bipush (x := nI 36) dX10_read_59 (by decide) rfl ?_
      refine ks_addN dX10_read_61 rfl ?_
      refine ks_putf (T := TX10) (kf := 10) kx_572 rfl in_X10 tyX10_ok nmX10 cl_X10 (by decide) ((ks_set_ne _ _ (by decide)).trans h20) (Nat.le_of_ble_eq_true rfl) rfl rfl rfl rfl dX10_read_62 rfl ?_
      refine ks_aload_n dX10_read_65 rfl rfl ?_
      refine ks_getf (T := TX10) (kf := 5) kx_565 rfl in_X10 cl_X10 (by decide) (ks_set_same _ _ _) rfl dX10_read_66 rfl ?_
      refine ks_iload dX10_read_69 rfl rfl ?_
      refine ks_aload_n dX10_read_71 rfl rfl ?_
      refine ks_iload_n dX10_read_72 rfl rfl ?_
      refine ks_iload_n dX10_read_73 rfl rfl ?_
      refine ks_callV (n := 2) (M' := mX10_readCount) (c_readCount (x := x + 36) (L := L) (most := L) (d := d) (ks_set_same _ _ _) ((ks_set_ne _ _ n_y_20).trans ((ks_set_ne _ _ n_y_21).trans h9)) hg hL (by omega) (by omega) (by omega)) (ks_set_same _ _ _) cl_X10 rfl kx_993 kx_995 kxp_11 kx_23 kx_996 (by decide +kernel) rfl (by decide) (Nat.le_of_ble_eq_true rfl) rfl dX10_read_74 rfl (fun r1 S2 h2 => ?_)
      rcases h2 with ⟨n, s, hr, rfl, rfl⟩ | ⟨hr, rfl, s, hs, rfl⟩
      · have rs := rc_some hr
        refine ks_iastNN (i := j) (v := n) (by decide) ((ks_set_ne _ _ (by decide)).trans ((ks_set_ne _ _ (by decide)).trans ((ks_set_ne _ _ (by decide)).trans h23))) (by omega) (by decide) dX10_read_77 rfl ?_
        refine ks_aload_n dX10_read_78 rfl rfl ?_
        refine ks_getf (T := TX10) (kf := 5) kx_565 rfl in_X10 cl_X10 (by decide) ((ks_set_ne _ _ (by decide)).trans (ks_set_same _ _ _)) rfl dX10_read_79 rfl ?_
        refine ks_iload dX10_read_82 rfl rfl ?_
        refine ks_ialdN (i := j) (ks_set_same _ _ _) rfl (by omega) (by decide) dX10_read_84 rfl ?_
        refine ks_ti (congrArg nI (va_up_self _ _ _)) ?_
        refine ks_if_geN (tgt := 90) (by omega) dX10_read_85 (by decide) ?_
        refine ks_aload_n dX10_read_90 rfl rfl ?_
        refine ks_getf (T := TX10) (kf := 4) kx_563 rfl in_X10 cl_X10 (by decide) ((ks_set_ne _ _ (by decide)).trans (ks_set_same _ _ _)) rfl dX10_read_91 rfl ?_
        refine ks_iload dX10_read_94 rfl rfl ?_
        refine ks_aload_n dX10_read_96 rfl rfl ?_
        refine ks_getf (T := TX10) (kf := 10) kx_572 rfl in_X10 cl_X10 (by decide) ((ks_set_ne _ _ (by decide)).trans (ks_set_same _ _ _)) rfl dX10_read_97 rfl ?_
        refine ks_iastNN (i := j) (v := s) (by decide) ((ks_set_ne _ _ (by decide)).trans ((ks_set_ne _ _ (by decide)).trans ((ks_set_ne _ _ (by decide)).trans ((ks_set_ne _ _ (by decide)).trans h22)))) (by omega) (by decide) dX10_read_100 rfl ?_
        refine ks_aload_n dX10_read_101 rfl rfl ?_
        refine ks_dup dX10_read_102 rfl rfl ?_
        refine ks_getf (T := TX10) (kf := 10) kx_572 rfl in_X10 cl_X10 (by decide) ((ks_set_ne _ _ (by decide)).trans ((ks_set_ne _ _ (by decide)).trans (ks_set_same _ _ _))) rfl dX10_read_103 rfl ?_
        refine ks_aload_n dX10_read_106 rfl rfl ?_
        refine ks_getf (T := TX10) (kf := 5) kx_565 rfl in_X10 cl_X10 (by decide) ((ks_set_ne _ _ (by decide)).trans ((ks_set_ne _ _ (by decide)).trans (ks_set_same _ _ _))) rfl dX10_read_107 rfl ?_
        refine ks_iload dX10_read_110 rfl rfl ?_
        refine ks_ialdN (i := j) ((ks_set_ne _ _ (by decide)).trans (ks_set_same _ _ _)) rfl (by omega) (by decide) dX10_read_112 rfl ?_
        refine ks_ti (congrArg nI (va_up_self _ _ _)) ?_
        refine ks_iconst (x := nI 4) dX10_read_113 (by decide) rfl ?_
        refine ks_addN dX10_read_114 rfl ?_
        refine ks_addN dX10_read_115 rfl ?_
        refine ks_putf (T := TX10) (kf := 10) kx_572 rfl in_X10 tyX10_ok nmX10 cl_X10 (by decide) ((ks_set_ne _ _ (by decide)).trans ((ks_set_ne _ _ (by decide)).trans (ks_set_same _ _ _))) (Nat.le_of_ble_eq_true rfl) rfl rfl rfl rfl dX10_read_116 rfl ?_
        refine ks_incN (c := 1) (e := j + 1) dX10_read_119 rfl (by decide) rfl (by decide) rfl ?_
        refine ks_sub [(4, _), (0, _), (1, _), (2, _), (3, _)] rfl ?_
        refine ks_goto (tgt := 34) dX10_read_122 (by decide) ?_
        refine ks_sub [(4, _), (0, _), (1, _), (2, _), (3, _)] rfl (ih (j + 1) (by omega) _ (s + n + 4) _ _ _ hA hS hZ (ip_s hx hr) (by omega) (ks_upL (ks_upL (ks_upL (ks_upL (ks_upL (ks_upL hu (by decide)) (by decide)) (by decide)) (by decide)) (by decide)) (by decide)) (ks_set_same _ _ _) ((ks_set_ne _ _ (by decide)).trans ((ks_set_ne _ _ (by decide)).trans ((ks_set_ne _ _ (by decide)).trans ((ks_set_ne _ _ (by decide)).trans ((ks_set_ne _ _ (by decide)).trans (ks_set_same _ _ _)))))) ((ks_set_ne _ _ (by decide)).trans (ks_set_same _ _ _)) ((ks_set_ne _ _ (by decide)).trans ((ks_set_ne _ _ (by decide)).trans (ks_set_same _ _ _))) ((ks_set_ne _ _ (by decide)).trans ((ks_set_ne _ _ (by decide)).trans ((ks_set_ne _ _ (by decide)).trans ((ks_set_ne _ _ (by decide)).trans ((ks_set_ne _ _ (by decide)).trans ((ks_set_ne _ _ (by decide)).trans h24)))))) ((ks_set_ne _ _ (by decide)).trans ((ks_set_ne _ _ (by decide)).trans ((ks_set_ne _ _ (by decide)).trans ((ks_set_ne _ _ (by decide)).trans ((ks_set_ne _ _ (by decide)).trans ((ks_set_ne _ _ (by decide)).trans h25)))))) ((ks_set_ne _ _ (by decide)).trans ((ks_set_ne _ _ (by decide)).trans ((ks_set_ne _ _ (by decide)).trans ((ks_set_ne _ _ (by decide)).trans ((ks_set_ne _ _ (by decide)).trans ((ks_set_ne _ _ (by decide)).trans h26)))))) (hI.up hx hr))
      · refine ks_ti (y := nI 4294967295) rfl ?_
        refine ks_iastNN (i := j) (v := 4294967295) (by decide) ((ks_set_ne _ _ (by decide)).trans ((ks_set_ne _ _ (by decide)).trans ((ks_set_ne _ _ (by decide)).trans h23))) (by omega) (by decide) dX10_read_77 rfl ?_
        refine ks_aload_n dX10_read_78 rfl rfl ?_
        refine ks_getf (T := TX10) (kf := 5) kx_565 rfl in_X10 cl_X10 (by decide) ((ks_set_ne _ _ (by decide)).trans (ks_set_same _ _ _)) rfl dX10_read_79 rfl ?_
        refine ks_iload dX10_read_82 rfl rfl ?_
        refine ks_ialdN (i := j) (ks_set_same _ _ _) rfl (by omega) (by decide) dX10_read_84 rfl ?_
        refine ks_ti (congrArg nI (va_up_self _ _ _)) ?_
        refine ks_if_ge (tgt := 90) dX10_read_85 (by decide) rfl (fun he => ?_) (fun he => ?_)
        · exact absurd he (by decide)
        · refine ks_iconst (x := (-1)) dX10_read_88 (by decide) rfl ?_
          refine ks_iret rfl dX10_read_89 ?_
          refine ⟨(ks_upL (ks_upL (ks_upL (ks_upL hu (by decide)) (by decide)) (by decide)) (by decide)), Or.inl ⟨?_, rfl, ⟨_, _, _, _, _, _, _, _, _, _, _, ((ks_set_ne _ _ (by decide)).trans (ks_set_same _ _ _)), ((ks_set_ne _ _ (by decide)).trans ((ks_set_ne _ _ (by decide)).trans ((ks_set_ne _ _ (by decide)).trans (ks_set_same _ _ _)))), ((ks_set_ne _ _ (by decide)).trans ((ks_set_ne _ _ (by decide)).trans ((ks_set_ne _ _ (by decide)).trans ((ks_set_ne _ _ (by decide)).trans h22)))), (ks_set_same _ _ _), ((ks_set_ne _ _ (by decide)).trans ((ks_set_ne _ _ (by decide)).trans ((ks_set_ne _ _ (by decide)).trans ((ks_set_ne _ _ (by decide)).trans h24)))), ((ks_set_ne _ _ (by decide)).trans ((ks_set_ne _ _ (by decide)).trans ((ks_set_ne _ _ (by decide)).trans ((ks_set_ne _ _ (by decide)).trans h25)))), ((ks_set_ne _ _ (by decide)).trans ((ks_set_ne _ _ (by decide)).trans ((ks_set_ne _ _ (by decide)).trans ((ks_set_ne _ _ (by decide)).trans h26))))⟩⟩⟩
          simp only [tx_, hk, ip_n hx hr k (by omega)]
set_option maxRecDepth 100000 in
set_option maxHeartbeats 40000000 in
theorem c_read {l : Launch} {G : ks_G} {d : Nat} {S : ks_S} {y N L b : Nat} {g : Nat → Nat} (hy : S.2.2 y = some (kB N g)) (hg : kO g) (hL : L ≤ N) (hN : N < 2 ^ 18) (hb : b ≤ L) (hyL : y ∉ ([20, 21, 22, 23, 24, 25, 26] : List Nat)) (hR : tvR S) : ks_P l G yX10_read mX10_read (d + 2) [.ref 20, .ref y, .int (nI b), .int (nI L)] S (rdP S y g L b) := by
  have n_y : y ≠ 20 ∧ y ≠ 21 ∧ y ≠ 22 ∧ y ≠ 23 ∧ y ≠ 24 ∧ y ≠ 25 ∧ y ≠ 26 := by simpa using hyL
  obtain ⟨n_y_20, n_y_21, n_y_22, n_y_23, n_y_24, n_y_25, n_y_26⟩ := n_y
  obtain ⟨vy, i1, i2, i9, x, fA, fS, fZ, hA, hS, hZ, h20, h21, h22, h23, h24, h25, h26⟩ := hR
  refine ks_of (by decide) rfl rfl (Nat.le_of_ble_eq_true rfl) ?_
  show ks_X l G mX10_read (d + 2) 0 [(0, .ref 20), (1, .ref y), (2, .int (nI b)), (3, .int (nI L))] [] S _
  refine ks_aload_n dX10_read_0 rfl rfl ?_
  refine ks_aload_n dX10_read_1 rfl rfl ?_
  refine ks_putf (T := TX10) (kf := 0) kx_554 rfl in_X10 tyX10_ok nmX10 cl_X10 (by decide) h20 (Nat.le_of_ble_eq_true rfl) rfl rfl rfl rfl dX10_read_2 rfl ?_
  refine ks_aload_n dX10_read_5 rfl rfl ?_
  refine ks_iload_n dX10_read_6 rfl rfl ?_
  refine ks_putf (T := TX10) (kf := 9) kx_571 rfl in_X10 tyX10_ok nmX10 cl_X10 (by decide) (ks_set_same _ _ _) (Nat.le_of_ble_eq_true rfl) rfl rfl rfl rfl dX10_read_7 rfl ?_
  refine ks_aload_n dX10_read_10 rfl rfl ?_
  refine ks_iload_n dX10_read_11 rfl rfl ?_
  refine ks_iconst (x := nI 4) dX10_read_12 (by decide) rfl ?_
  refine ks_addN dX10_read_13 rfl ?_
  refine ks_putf (T := TX10) (kf := 10) kx_572 rfl in_X10 tyX10_ok nmX10 cl_X10 (by decide) (ks_set_same _ _ _) (Nat.le_of_ble_eq_true rfl) rfl rfl rfl rfl dX10_read_14 rfl ?_
  refine ks_aload_n dX10_read_17 rfl rfl ?_
  refine ks_aload_n dX10_read_18 rfl rfl ?_
  refine ks_iload_n dX10_read_19 rfl rfl ?_
  refine ks_aload_n dX10_read_20 rfl rfl ?_
  refine ks_getf (T := TX10) (kf := 3) kx_561 rfl in_X10 cl_X10 (by decide) (ks_set_same _ _ _) rfl dX10_read_21 rfl ?_
  refine ks_alen (by decide) ((ks_set_ne _ _ (by decide)).trans ((ks_set_ne _ _ (by decide)).trans ((ks_set_ne _ _ (by decide)).trans h21))) rfl (by decide) dX10_read_24 rfl ?_
  refine ks_callV (n := 2) (M' := mX10_readCount) (c_readCount (x := b + 4) (L := L) (most := 40) (d := d) (ks_set_same _ _ _) ((ks_set_ne _ _ n_y_20).trans ((ks_set_ne _ _ n_y_20).trans ((ks_set_ne _ _ n_y_20).trans hy))) hg hL (by omega) (by omega) (by decide)) (ks_set_same _ _ _) cl_X10 rfl kx_993 kx_995 kxp_11 kx_23 kx_996 (by decide +kernel) rfl (by decide) (Nat.le_of_ble_eq_true rfl) rfl dX10_read_25 rfl (fun r1 S2 h2 => ?_)
  rcases h2 with ⟨n, s, hr, rfl, rfl⟩ | ⟨hr, rfl, s, hs, rfl⟩
  · have rs := rc_some hr
    refine ks_putf (T := TX10) (kf := 1) kx_557 rfl in_X10 tyX10_ok nmX10 cl_X10 (by decide) (ks_set_same _ _ _) (Nat.le_of_ble_eq_true rfl) rfl rfl rfl rfl dX10_read_28 rfl ?_
    refine ks_iconst (x := nI 0) dX10_read_31 (by decide) rfl ?_
    refine ks_istore dX10_read_32 (by decide) rfl ?_
    refine ks_sub [(4, _), (0, _), (1, _), (2, _), (3, _)] rfl ?_
    refine ks_sub [(4, _), (0, _), (1, _), (2, _), (3, _)] rfl (l_rdIn hy hg hL hN hb hyL hr n 0 (by omega) _ s fA fS fZ hA hS hZ rfl (by omega) (ks_upL (ks_upL (ks_upL (ks_upL (ks_upL (ks_up.rf S _) (by decide)) (by decide)) (by decide)) (by decide)) (by decide)) (ks_set_same _ _ _) ((ks_set_ne _ _ (by decide)).trans ((ks_set_ne _ _ (by decide)).trans ((ks_set_ne _ _ (by decide)).trans ((ks_set_ne _ _ (by decide)).trans ((ks_set_ne _ _ (by decide)).trans h21))))) ((ks_set_ne _ _ (by decide)).trans ((ks_set_ne _ _ (by decide)).trans ((ks_set_ne _ _ (by decide)).trans ((ks_set_ne _ _ (by decide)).trans ((ks_set_ne _ _ (by decide)).trans h22))))) ((ks_set_ne _ _ (by decide)).trans ((ks_set_ne _ _ (by decide)).trans ((ks_set_ne _ _ (by decide)).trans ((ks_set_ne _ _ (by decide)).trans ((ks_set_ne _ _ (by decide)).trans h23))))) ((ks_set_ne _ _ (by decide)).trans ((ks_set_ne _ _ (by decide)).trans ((ks_set_ne _ _ (by decide)).trans ((ks_set_ne _ _ (by decide)).trans ((ks_set_ne _ _ (by decide)).trans h24))))) ((ks_set_ne _ _ (by decide)).trans ((ks_set_ne _ _ (by decide)).trans ((ks_set_ne _ _ (by decide)).trans ((ks_set_ne _ _ (by decide)).trans ((ks_set_ne _ _ (by decide)).trans h25))))) ((ks_set_ne _ _ (by decide)).trans ((ks_set_ne _ _ (by decide)).trans ((ks_set_ne _ _ (by decide)).trans ((ks_set_ne _ _ (by decide)).trans ((ks_set_ne _ _ (by decide)).trans h26))))) (fun i hi => absurd hi (Nat.not_lt_zero i)))
  · refine ks_putf (T := TX10) (kf := 1) kx_557 rfl in_X10 tyX10_ok nmX10 cl_X10 (by decide) (ks_set_same _ _ _) (Nat.le_of_ble_eq_true rfl) rfl rfl rfl rfl dX10_read_28 rfl ?_
    refine ks_iconst (x := nI 0) dX10_read_31 (by decide) rfl ?_
    refine ks_istore dX10_read_32 (by decide) rfl ?_
    refine ks_sub [(4, _), (0, _), (1, _), (2, _), (3, _)] rfl ?_
    refine ks_iload dX10_read_34 rfl rfl ?_
    refine ks_aload_n dX10_read_36 rfl rfl ?_
    refine ks_getf (T := TX10) (kf := 1) kx_557 rfl in_X10 cl_X10 (by decide) (ks_set_same _ _ _) rfl dX10_read_37 rfl ?_
    refine ks_icmp_ge (tgt := 125) dX10_read_40 (by decide) rfl (fun hc40 => ?_) (fun hc40 => ?_)
    · refine ks_aload_n dX10_read_125 rfl rfl ?_
      refine ks_aload_n dX10_read_126 rfl rfl ?_
      refine ks_getf (T := TX10) (kf := 1) kx_557 rfl in_X10 cl_X10 (by decide) (ks_set_same _ _ _) rfl dX10_read_127 rfl ?_
      refine ks_if_ge (tgt := 137) dX10_read_130 (by decide) rfl (fun hc130 => ?_) (fun hc130 => ?_)
      · exact absurd hc130 (by decide)
      · refine ks_iconst (x := (-1)) dX10_read_133 (by decide) rfl ?_
        refine ks_goto (tgt := 147) dX10_read_134 (by decide) ?_
        refine ks_putf (T := TX10) (kf := 2) kx_559 rfl in_X10 tyX10_ok nmX10 cl_X10 (by decide) (ks_set_same _ _ _) (Nat.le_of_ble_eq_true rfl) rfl rfl rfl rfl dX10_read_147 rfl ?_
        refine ks_iconst (x := nI 0) dX10_read_150 (by decide) rfl ?_
        refine ks_istore dX10_read_151 (by decide) rfl ?_
        refine ks_sub [(4, _), (0, _), (1, _), (2, _), (3, _)] rfl ?_
        refine ks_iload dX10_read_153 rfl rfl ?_
        refine ks_aload_n dX10_read_155 rfl rfl ?_
        refine ks_getf (T := TX10) (kf := 2) kx_559 rfl in_X10 cl_X10 (by decide) (ks_set_same _ _ _) rfl dX10_read_156 rfl ?_
        refine ks_icmp_ge (tgt := 242) dX10_read_159 (by decide) rfl (fun hc159 => ?_) (fun hc159 => ?_)
        · refine ks_aload_n dX10_read_242 rfl rfl ?_
          refine ks_dup dX10_read_243 rfl rfl ?_
          refine ks_getf (T := TX10) (kf := 10) kx_572 rfl in_X10 cl_X10 (by decide) (ks_set_same _ _ _) rfl dX10_read_244 rfl ?_
          refine ks_iconst (x := nI 4) dX10_read_247 (by decide) rfl ?_
          refine ks_addN dX10_read_248 rfl ?_
          refine ks_putf (T := TX10) (kf := 10) kx_572 rfl in_X10 tyX10_ok nmX10 cl_X10 (by decide) (ks_set_same _ _ _) (Nat.le_of_ble_eq_true rfl) rfl rfl rfl rfl dX10_read_249 rfl ?_
          refine ks_aload_n dX10_read_252 rfl rfl ?_
          refine ks_getf (T := TX10) (kf := 2) kx_559 rfl in_X10 cl_X10 (by decide) (ks_set_same _ _ _) rfl dX10_read_253 rfl ?_
          refine ks_if_lt (tgt := 267) dX10_read_256 (by decide) rfl (fun hc256 => ?_) (fun hc256 => ?_)
          · refine ks_iconst (x := (-1)) dX10_read_267 (by decide) rfl ?_
            refine ks_goto (tgt := 275) dX10_read_268 (by decide) ?_
            refine ks_iret rfl dX10_read_275 ?_
            refine ⟨(ks_upL (ks_upL (ks_upL (ks_upL (ks_upL (ks_upL (ks_upL (ks_up.rf S _) (by decide)) (by decide)) (by decide)) (by decide)) (by decide)) (by decide)) (by decide)), Or.inl ⟨?_, rfl, ⟨_, _, _, _, _, _, _, _, _, _, _, (ks_set_same _ _ _), ((ks_set_ne _ _ (by decide)).trans ((ks_set_ne _ _ (by decide)).trans ((ks_set_ne _ _ (by decide)).trans ((ks_set_ne _ _ (by decide)).trans ((ks_set_ne _ _ (by decide)).trans ((ks_set_ne _ _ (by decide)).trans ((ks_set_ne _ _ (by decide)).trans h21))))))), ((ks_set_ne _ _ (by decide)).trans ((ks_set_ne _ _ (by decide)).trans ((ks_set_ne _ _ (by decide)).trans ((ks_set_ne _ _ (by decide)).trans ((ks_set_ne _ _ (by decide)).trans ((ks_set_ne _ _ (by decide)).trans ((ks_set_ne _ _ (by decide)).trans h22))))))), ((ks_set_ne _ _ (by decide)).trans ((ks_set_ne _ _ (by decide)).trans ((ks_set_ne _ _ (by decide)).trans ((ks_set_ne _ _ (by decide)).trans ((ks_set_ne _ _ (by decide)).trans ((ks_set_ne _ _ (by decide)).trans ((ks_set_ne _ _ (by decide)).trans h23))))))), ((ks_set_ne _ _ (by decide)).trans ((ks_set_ne _ _ (by decide)).trans ((ks_set_ne _ _ (by decide)).trans ((ks_set_ne _ _ (by decide)).trans ((ks_set_ne _ _ (by decide)).trans ((ks_set_ne _ _ (by decide)).trans ((ks_set_ne _ _ (by decide)).trans h24))))))), ((ks_set_ne _ _ (by decide)).trans ((ks_set_ne _ _ (by decide)).trans ((ks_set_ne _ _ (by decide)).trans ((ks_set_ne _ _ (by decide)).trans ((ks_set_ne _ _ (by decide)).trans ((ks_set_ne _ _ (by decide)).trans ((ks_set_ne _ _ (by decide)).trans h25))))))), ((ks_set_ne _ _ (by decide)).trans ((ks_set_ne _ _ (by decide)).trans ((ks_set_ne _ _ (by decide)).trans ((ks_set_ne _ _ (by decide)).trans ((ks_set_ne _ _ (by decide)).trans ((ks_set_ne _ _ (by decide)).trans ((ks_set_ne _ _ (by decide)).trans h26)))))))⟩⟩⟩
            simp only [tx_, hr]
          · exact absurd (by decide) hc256
        · exact absurd (by decide) hc159
    · exact absurd (by decide) hc40

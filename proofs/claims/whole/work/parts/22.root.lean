/-! HASHER: root -/
def rt_dup (n : Nat) (f : Nat → Nat) : Nat → Nat := fun x => if x < 32 * n then f x else f (x - 32)
def rt_lv (n : Nat) (f : Nat → Nat) : Nat → Nat := fun j => twice_ (fun k => rt_dup n f (64 * (j / 32) + k)) 64 (j % 32)
def rt_ : Nat → Nat → (Nat → Nat) → Nat → Nat
  | 0, _, f => f
  | q + 1, n, f => if n ≤ 1 then f else rt_ q ((n + 1) / 2) (rt_lv n f)
/-- the ROOT of so many IDs -/
def root_ (ids : Nat → Nat) (c : Nat) : Nat → Nat := if c = 0 then fun _ => 0 else rt_ c c ids
theorem rt_lv_congr {n : Nat} {f g : Nat → Nat} (h : ∀ j, j < 32 * n → f j = g j) {j : Nat} (hj : j < 32 * ((n + 1) / 2)) : rt_lv n f j = rt_lv n g j := by
  unfold rt_lv
  refine congrFun (twice_congr ?_) _
  intro k hk
  show rt_dup n f _ = rt_dup n g _
  unfold rt_dup
  by_cases e : 64 * (j / 32) + k < 32 * n
  · rw [if_pos e, if_pos e, h _ e]
  · rw [if_neg e, if_neg e, h _ (by omega)]
theorem rt_congr : ∀ (q n : Nat) {f g : Nat → Nat}, (∀ j, j < 32 * n → f j = g j) → 1 ≤ n → n ≤ q + 1 → ∀ j, j < 32 → rt_ q n f j = rt_ q n g j
  | 0, n, f, g, h, h1, h2, j, hj => h j (by omega)
  | q + 1, n, f, g, h, h1, h2, j, hj => by
    unfold rt_
    by_cases e : n ≤ 1
    · rw [if_pos e, if_pos e]; exact h j (by omega)
    · rw [if_neg e, if_neg e]
      exact rt_congr q ((n + 1) / 2) (fun j hj => rt_lv_congr h hj) (by omega) (by omega) j hj
set_option maxRecDepth 100000 in
set_option maxHeartbeats 40000000 in
theorem l_rootIn {l : Launch} {G : ks_G} {d : Nat} {h st wo si la be tr id ou n : Nat} {c : Int32} {F : Nat → Nat} {P : Option Value → ks_S → Prop} (hne : hs_ne h st wo si la be tr) (hn1 : 2 ≤ n) (hn : n ≤ 12) (S0 : ks_S) (hk : ∀ (S2 : ks_S) (g2 : Nat → Nat), hs_ok S2 h st wo si la be tr → ks_stOK S2 → ks_up S0 S2 [wo, st, si, la, be, tr] → S2.2.2 tr = some (kB 416 g2) → kO g2 → (∀ j, j < 32 * ((n + 1) / 2) → g2 j = rt_lv n F j) → ks_X l G mX6_root (d + 5) 101 [(4, .int (nI n)), (0, .ref h), (1, .ref id), (2, .int c), (3, .ref ou)] [] S2 P) : ∀ (k i : Nat), i + k = (n + 1) / 2 → ∀ (S1 : ks_S) (g : Nat → Nat), hs_ok S1 h st wo si la be tr → ks_stOK S1 → ks_up S0 S1 [wo, st, si, la, be, tr] → S1.2.2 tr = some (kB 416 g) → kO g → (∀ j, j < 32 * i → g j = rt_lv n F j) → (∀ j, 32 * i ≤ j → j < 32 * n + 32 → g j = rt_dup n F j) → ks_X l G mX6_root (d + 5) 62 [(5, .int (nI i)), (4, .int (nI n)), (0, .ref h), (1, .ref id), (2, .int c), (3, .ref ou)] [] S1 P := by
  obtain ⟨m1, m2, m3, m4, m5, m6, m7, m8, m9⟩ := _root_.id hne
  intro k
  induction k with
  | zero =>
      intro i hi S1 g hh hK hu ht hg h1 h2
      refine ks_iconst (x := nI 2) dX6_root_62 (by decide) rfl ?_
      refine ks_iload dX6_root_63 rfl rfl ?_
      refine ks_mulN dX6_root_65 rfl ?_
      refine ks_iload dX6_root_66 rfl rfl ?_
      refine ks_icmp_geN (tgt := 101) (by omega) (by omega) dX6_root_68 (by decide) rfl (fun hc => ?_) (fun hc => ?_)
      · refine ks_sub [(4, _), (0, _), (1, _), (2, _), (3, _)] rfl ?_
        exact hk S1 g hh hK hu ht hg (by rw [← hi]; exact h1)
      · exact absurd hc (by omega)
  | succ k ih =>
      intro i hi S1 g hh hK hu ht hg h1 h2
      refine ks_iconst (x := nI 2) dX6_root_62 (by decide) rfl ?_
      refine ks_iload dX6_root_63 rfl rfl ?_
      refine ks_mulN dX6_root_65 rfl ?_
      refine ks_iload dX6_root_66 rfl rfl ?_
      refine ks_icmp_geN (tgt := 101) (by omega) (by omega) dX6_root_68 (by decide) rfl (fun hc => ?_) (fun hc => ?_)
      · exact absurd hc (by omega)
      · refine ks_aload_n dX6_root_71 rfl rfl ?_
        refine ks_aload_n dX6_root_72 rfl rfl ?_
        refine ks_getf (T := TX6) (kf := 5) kx_86 rfl in_X6 cl_X6 (by decide) hh.1 rfl dX6_root_73 rfl ?_
        refine ks_bipush (x := nI 64) dX6_root_76 (by decide) rfl ?_
        refine ks_iload dX6_root_78 rfl rfl ?_
        refine ks_mulN dX6_root_80 rfl ?_
        refine ks_bipush (x := nI 64) dX6_root_81 (by decide) rfl ?_
        refine ks_aload_n dX6_root_83 rfl rfl ?_
        refine ks_getf (T := TX6) (kf := 5) kx_86 rfl in_X6 cl_X6 (by decide) hh.1 rfl dX6_root_84 rfl ?_
        refine ks_bipush (x := nI 32) dX6_root_87 (by decide) rfl ?_
        refine ks_iload dX6_root_89 rfl rfl ?_
        refine ks_mulN dX6_root_91 rfl ?_
        refine ks_callV (n := 5) (M' := mX6_twice) (c_twice (d := d) (i := 64 * i) (n := 64) (oa := 32 * i) hh hne ht hg (by omega) (by decide) ht hg (by omega) (by decide) hK m8 m8 m9) hh.1 cl_X6 rfl kx_908 kx_877 kx_878 kx_3 kx_879 (by decide +kernel) rfl (by decide) (Nat.le_of_ble_eq_true rfl) rfl dX6_root_92 rfl (fun r1 S2 h3 => ?_)
        obtain ⟨rfl, hu1, hh1, ht1⟩ := h3
        refine ks_incN (c := 1) (e := i + 1) dX6_root_95 rfl (by decide) rfl (by decide) rfl ?_
        refine ks_sub [(5, _), (4, _), (0, _), (1, _), (2, _), (3, _)] rfl ?_
        refine ks_goto (tgt := 62) dX6_root_98 (by decide) ?_
        refine ks_sub [(5, _), (4, _), (0, _), (1, _), (2, _), (3, _)] rfl (ih (i + 1) (by omega) S2 _ hh1 ?_ (hu.trans (hu1.mono ?_)) ht1 (kO_pt (kO_twice _ _) hg _ _) ?_ ?_)
        · obtain ⟨_, _, hl⟩ := hh.2.2.2.2.1
          obtain ⟨_, _, hb⟩ := hh.2.2.2.2.2.1
          exact fun i q hq => hu1.at (hK i q hq) (by simp [show ks_B + i ≠ wo by omega, show ks_B + i ≠ st by omega, show ks_B + i ≠ si by omega, show ks_B + i ≠ la from ks_neT (hK i q hq) hl (by decide), show ks_B + i ≠ be from ks_neT (hK i q hq) hb (by decide), show ks_B + i ≠ tr from ks_neT (hK i q hq) ht (by decide)])
        · intro x hx
          exact hx
        · intro j hj
          by_cases e : j < 32 * i
          · rw [show ks_pt (twice_ (fun k => g (64 * i + k)) 64) g (32 * i) 32 j = g j from if_neg (by omega)]
            exact h1 j e
          · rw [show ks_pt (twice_ (fun k => g (64 * i + k)) 64) g (32 * i) 32 j = twice_ (fun k => g (64 * i + k)) 64 (j - 32 * i) from if_pos (by omega)]
            unfold rt_lv
            rw [show j / 32 = i by omega, show j % 32 = j - 32 * i by omega]
            exact congrFun (twice_congr (fun k hk => h2 _ (by omega) (by omega))) _
        · intro j hj1 hj2
          rw [show ks_pt (twice_ (fun k => g (64 * i + k)) 64) g (32 * i) 32 j = g j from if_neg (by omega)]
          exact h2 j (by omega) hj2
set_option maxRecDepth 100000 in
set_option maxHeartbeats 40000000 in
theorem l_rootOut {l : Launch} {G : ks_G} {d : Nat} {h st wo si la be tr id ou : Nat} {c : Int32} {P : Option Value → ks_S → Prop} (hne : hs_ne h st wo si la be tr) (S0 : ks_S) (T : Nat → Nat) (hk : ∀ (S2 : ks_S) (g2 : Nat → Nat), hs_ok S2 h st wo si la be tr → ks_stOK S2 → ks_up S0 S2 [wo, st, si, la, be, tr] → S2.2.2 tr = some (kB 416 g2) → kO g2 → (∀ j, j < 32 → g2 j = T j) → ks_X l G mX6_root (d + 5) 112 [(0, .ref h), (1, .ref id), (2, .int c), (3, .ref ou)] [] S2 P) : ∀ (q n : Nat) (F : Nat → Nat), 1 ≤ n → n ≤ q + 1 → n ≤ 12 → rt_ q n F = T → ∀ (S1 : ks_S) (g : Nat → Nat), hs_ok S1 h st wo si la be tr → ks_stOK S1 → ks_up S0 S1 [wo, st, si, la, be, tr] → S1.2.2 tr = some (kB 416 g) → kO g → (∀ j, j < 32 * n → g j = F j) → ks_X l G mX6_root (d + 5) 28 [(4, .int (nI n)), (0, .ref h), (1, .ref id), (2, .int c), (3, .ref ou)] [] S1 P := by
  obtain ⟨m1, m2, m3, m4, m5, m6, m7, m8, m9⟩ := _root_.id hne
  intro q
  induction q with
  | zero =>
    intro n F hn1 hn hn12 hT S1 g hh hK hu ht hg h1
    refine ks_iload dX6_root_28 rfl rfl ?_
    refine ks_iconst (x := nI 1) dX6_root_30 (by decide) rfl ?_
    refine ks_icmp_leN (tgt := 112) (by omega) (by decide) dX6_root_31 (by decide) rfl (fun hc => ?_) (fun hc => ?_)
    · refine ks_sub [(0, _), (1, _), (2, _), (3, _)] rfl ?_
      exact hk S1 g hh hK hu ht hg (fun j hj => by rw [← hT]; exact h1 j (by omega))
    · exact absurd (show n ≤ 1 by omega) hc
  | succ q ih =>
    intro n F hn1 hn hn12 hT S1 g hh hK hu ht hg h1
    refine ks_iload dX6_root_28 rfl rfl ?_
    refine ks_iconst (x := nI 1) dX6_root_30 (by decide) rfl ?_
    refine ks_icmp_leN (tgt := 112) (by omega) (by decide) dX6_root_31 (by decide) rfl (fun hc => ?_) (fun hc => ?_)
    · refine ks_sub [(0, _), (1, _), (2, _), (3, _)] rfl ?_
      exact hk S1 g hh hK hu ht hg (fun j hj => by rw [← hT, rt_, if_pos hc]; exact h1 j (by omega))
    · refine ks_aload_n dX6_root_34 rfl rfl ?_
      refine ks_getf (T := TX6) (kf := 5) kx_86 rfl in_X6 cl_X6 (by decide) hh.1 rfl dX6_root_35 rfl ?_
      refine ks_bipush (x := nI 32) dX6_root_38 (by decide) rfl ?_
      refine ks_iload dX6_root_40 rfl rfl ?_
      refine ks_iconst (x := nI 1) dX6_root_42 (by decide) rfl ?_
      refine ks_subN (by omega) dX6_root_43 rfl ?_
      refine ks_mulN dX6_root_44 rfl ?_
      refine ks_aload_n dX6_root_45 rfl rfl ?_
      refine ks_getf (T := TX6) (kf := 5) kx_86 rfl in_X6 cl_X6 (by decide) hh.1 rfl dX6_root_46 rfl ?_
      refine ks_bipush (x := nI 32) dX6_root_49 (by decide) rfl ?_
      refine ks_iload dX6_root_51 rfl rfl ?_
      refine ks_mulN dX6_root_53 rfl ?_
      refine ks_bipush (x := nI 32) dX6_root_54 (by decide) rfl ?_
      refine ks_copyB (n := 32) (dp := 32 * n) (sp := 32 * (n - 1)) ht ht rfl rfl rfl (by omega) (by omega) (by decide) (by decide) kx_886 kx_275 kx_274 kx_17 (by omega) (Nat.le_of_ble_eq_true rfl) dX6_root_56 rfl ?_
      refine ks_iconst (x := nI 0) dX6_root_59 (by decide) rfl ?_
      refine ks_istore dX6_root_60 (by decide) rfl ?_
      refine ks_sub [(5, _), (4, _), (0, _), (1, _), (2, _), (3, _)] rfl ?_
      rw [rt_, if_neg hc] at hT
      refine l_rootIn (F := F) hne (by omega) hn12 S0 ?_ ((n + 1) / 2) 0 (by omega) _ _ ?_ ?_ (hu.trans (ks_up_set _ _ (by simp))) (ks_set_same _ _ _) (kO_cpy hg hg _ _ _) (fun j hj => by omega) ?_
      · intro S2 g2 hh2 hK2 hu2 ht2 hg2 h3
        refine ks_iload dX6_root_101 rfl rfl ?_
        refine ks_iconst (x := nI 1) dX6_root_103 (by decide) rfl ?_
        refine ks_addN dX6_root_104 rfl ?_
        refine ks_iconst (x := nI 2) dX6_root_105 (by decide) rfl ?_
        refine ks_divN (by omega) (by decide) (by decide) dX6_root_106 rfl ?_
        refine ks_istore dX6_root_107 (by decide) rfl ?_
        refine ks_sub [(4, _), (0, _), (1, _), (2, _), (3, _)] rfl ?_
        refine ks_goto (tgt := 28) dX6_root_109 (by decide) ?_
        exact ih ((n + 1) / 2) (rt_lv n F) (by omega) (by omega) (by omega) hT S2 g2 hh2 hK2 hu2 ht2 hg2 h3
      · obtain ⟨q1, q2, q3, q4, ⟨gl, ql, q5⟩, ⟨gb, qb, q6⟩, q7⟩ := hh
        exact ⟨(ks_set_ne _ _ (Ne.symm (ks_neO ht q1))).trans q1, ⟨_, (ks_set_ne _ _ (ks_neT q2.choose_spec ht (by decide))).trans q2.choose_spec⟩, ⟨_, (ks_set_ne _ _ (ks_neT q3.choose_spec ht (by decide))).trans q3.choose_spec⟩, ⟨_, (ks_set_ne _ _ (ks_neT q4.choose_spec ht (by decide))).trans q4.choose_spec⟩, ⟨gl, ql, (ks_set_ne _ _ m8).trans q5⟩, ⟨gb, qb, (ks_set_ne _ _ m9).trans q6⟩, ⟨_, kO_cpy hg hg _ _ _, ks_set_same _ _ _⟩⟩
      · exact fun i q hq => (ks_set_ne _ _ (ks_neT (hK i q hq) ht (by decide))).trans (hK i q hq)
      · intro j _ hj
        unfold rt_dup
        by_cases e : j < 32 * n
        · rw [if_pos e, pk_cpy_out (by omega), h1 j e]
        · rw [if_neg e, pk_cpy_in (by omega) (by omega), h1 _ (by omega)]
          congr 1
          omega
set_option maxRecDepth 100000 in
set_option maxHeartbeats 40000000 in
theorem c_root {l : Launch} {G : ks_G} {d : Nat} {S : ks_S} {h st wo si la be tr id ou Ni No c : Nat} {gi go : Nat → Nat} (hh : hs_ok S h st wo si la be tr) (hne : hs_ne h st wo si la be tr) (hK : ks_stOK S) (hid : S.2.2 id = some (kB Ni gi)) (hgi : kO gi) (hc : c ≤ 12) (hci : 32 * c ≤ Ni) (hNi : Ni < 2 ^ 30) (ho : S.2.2 ou = some (kB No go)) (hgo : kO go) (hNo : 32 ≤ No) (hNo2 : No < 2 ^ 30) (n_id_tr : id ≠ tr) (n_ou_tr : ou ≠ tr) (n_ou_la : ou ≠ la) (n_ou_be : ou ≠ be) : ks_P l G yX6_root mX6_root (d + 5) [.ref h, .ref id, .int (nI c), .ref ou] S (fun z S' => z = none ∧ ks_up S S' [wo, st, si, la, be, tr, ou] ∧ hs_ok S' h st wo si la be tr ∧ S'.2.2 ou = some (kB No (ks_pt (root_ gi c) go 0 32))) := by
  obtain ⟨m1, m2, m3, m4, m5, m6, m7, m8, m9⟩ := _root_.id hne
  obtain ⟨gt, hgt, ht⟩ := hh.2.2.2.2.2.2
  have n_h_tr : h ≠ tr := Ne.symm (ks_neO ht hh.1)
  refine ks_of (by decide) rfl rfl (Nat.le_of_ble_eq_true rfl) ?_
  show ks_X l G mX6_root (d + 5) 0 [(0, .ref h), (1, .ref id), (2, .int (nI c)), (3, .ref ou)] [] S _
  refine ks_aload_n dX6_root_0 rfl rfl ?_
  refine ks_getf (T := TX6) (kf := 5) kx_86 rfl in_X6 cl_X6 (by decide) hh.1 rfl dX6_root_1 rfl ?_
  refine ks_iconst (x := nI 0) dX6_root_4 (by decide) rfl ?_
  refine ks_bipush (x := nI 32) dX6_root_5 (by decide) rfl ?_
  refine ks_iconst (x := nI 0) dX6_root_7 (by decide) rfl ?_
  refine ks_callS (n := 4) (M' := mJ7_fill_eb02e) (c_fillBr (d := d + 3) (x := nI 0) ht (Nat.zero_le 32) (by decide) (by decide)) kx_897 kx_898 kx_6 kx_899 (by decide +kernel) rfl (by decide) (Nat.le_of_ble_eq_true rfl) rfl dX6_root_8 rfl (fun r1 S9 h9 => ?_)
  obtain ⟨rfl, rfl⟩ := h9
  refine ks_aload_n dX6_root_11 rfl rfl ?_
  refine ks_iconst (x := nI 0) dX6_root_12 (by decide) rfl ?_
  refine ks_aload_n dX6_root_13 rfl rfl ?_
  refine ks_getf (T := TX6) (kf := 5) kx_86 rfl in_X6 cl_X6 (by decide) ((ks_set_ne _ _ n_h_tr).trans hh.1) rfl dX6_root_14 rfl ?_
  refine ks_iconst (x := nI 0) dX6_root_17 (by decide) rfl ?_
  refine ks_bipush (x := nI 32) dX6_root_18 (by decide) rfl ?_
  refine ks_iload_n dX6_root_20 rfl rfl ?_
  refine ks_mulN dX6_root_21 rfl ?_
  refine ks_copyB (n := 32 * c) (dp := 0) (sp := 0) ((ks_set_ne _ _ n_id_tr).trans hid) (ks_set_same _ _ _) rfl rfl rfl (by omega) (by omega) (by omega) (by decide) kx_886 kx_275 kx_274 kx_17 (by omega) (Nat.le_of_ble_eq_true rfl) dX6_root_22 rfl ?_
  have hg1 : kO (ks_fill gt 0 32 (ks_by (nI 0))) := kO_fill hgt _ _ (ks_by_lt _)
  rw [ks_set_set]
  have hh1 : hs_ok (ks_set S tr (kB 416 (va_cpy gi (ks_fill gt 0 32 (ks_by (nI 0))) 0 0 (32 * c)))) h st wo si la be tr := by
    obtain ⟨q1, q2, q3, q4, ⟨gl, ql, q5⟩, ⟨gb, qb, q6⟩, q7⟩ := hh
    exact ⟨(ks_set_ne _ _ (Ne.symm (ks_neO ht q1))).trans q1, ⟨_, (ks_set_ne _ _ (ks_neT q2.choose_spec ht (by decide))).trans q2.choose_spec⟩, ⟨_, (ks_set_ne _ _ (ks_neT q3.choose_spec ht (by decide))).trans q3.choose_spec⟩, ⟨_, (ks_set_ne _ _ (ks_neT q4.choose_spec ht (by decide))).trans q4.choose_spec⟩, ⟨gl, ql, (ks_set_ne _ _ m8).trans q5⟩, ⟨gb, qb, (ks_set_ne _ _ m9).trans q6⟩, ⟨_, kO_cpy hgi hg1 _ _ _, ks_set_same _ _ _⟩⟩
  have hK1 : ks_stOK (ks_set S tr (kB 416 (va_cpy gi (ks_fill gt 0 32 (ks_by (nI 0))) 0 0 (32 * c)))) := fun i q hq => (ks_set_ne _ _ (ks_neT (hK i q hq) ht (by decide))).trans (hK i q hq)
  generalize hS1 : ks_set S tr (kB 416 (va_cpy gi (ks_fill gt 0 32 (ks_by (nI 0))) 0 0 (32 * c))) = S1 at hh1 hK1 ⊢
  have ht1 : S1.2.2 tr = some (kB 416 (va_cpy gi (ks_fill gt 0 32 (ks_by (nI 0))) 0 0 (32 * c))) := by rw [← hS1]; exact ks_set_same _ _ _
  have ho1 : S1.2.2 ou = some (kB No go) := by rw [← hS1]; exact (ks_set_ne _ _ n_ou_tr).trans ho
  have hu1 : ks_up S S1 [wo, st, si, la, be, tr, ou] := by rw [← hS1]; exact ks_up_set _ _ (by simp)
  refine ks_iload_n dX6_root_25 rfl rfl ?_
  refine ks_istore dX6_root_26 (by decide) rfl ?_
  refine ks_sub [(4, _), (0, _), (1, _), (2, _), (3, _)] rfl ?_
  have fin : ∀ (S2 : ks_S) (g2 : Nat → Nat), hs_ok S2 h st wo si la be tr → ks_stOK S2 → ks_up S1 S2 [wo, st, si, la, be, tr] → S2.2.2 tr = some (kB 416 g2) → kO g2 → (∀ j, j < 32 → g2 j = root_ gi c j) → ks_X l G mX6_root (d + 5) 112 [(0, .ref h), (1, .ref id), (2, .int (nI c)), (3, .ref ou)] [] S2 (fun z S' => z = none ∧ ks_up S S' [wo, st, si, la, be, tr, ou] ∧ hs_ok S' h st wo si la be tr ∧ S'.2.2 ou = some (kB No (ks_pt (root_ gi c) go 0 32))) := by
    intro S2 g2 hh2 hK2 hu2 ht2 hg2 h3
    have n_ou_wo : ou ≠ wo := ks_neT ho1 hh1.2.2.1.choose_spec (by decide)
    have n_ou_st : ou ≠ st := ks_neT ho1 hh1.2.1.choose_spec (by decide)
    have n_ou_si : ou ≠ si := ks_neT ho1 hh1.2.2.2.1.choose_spec (by decide)
    have ho2 := hu2.at ho1 (by simp [n_ou_wo, n_ou_st, n_ou_si, n_ou_la, n_ou_be, n_ou_tr])
    refine ks_aload_n dX6_root_112 rfl rfl ?_
    refine ks_getf (T := TX6) (kf := 5) kx_86 rfl in_X6 cl_X6 (by decide) hh2.1 rfl dX6_root_113 rfl ?_
    refine ks_iconst (x := nI 0) dX6_root_116 (by decide) rfl ?_
    refine ks_aload_n dX6_root_117 rfl rfl ?_
    refine ks_iconst (x := nI 0) dX6_root_118 (by decide) rfl ?_
    refine ks_bipush (x := nI 32) dX6_root_119 (by decide) rfl ?_
    refine ks_copyB (n := 32) (dp := 0) (sp := 0) ht2 ho2 rfl rfl rfl (by omega) (by omega) (by decide) (by omega) kx_886 kx_275 kx_274 kx_17 (by omega) (Nat.le_of_ble_eq_true rfl) dX6_root_121 rfl ?_
    refine ks_ret rfl dX6_root_124 ?_
    refine ⟨rfl, (hu1.trans (hu2.mono (by intro x hx; simp at hx ⊢; rcases hx with h | h | h | h | h | h <;> simp [h]))).trans (ks_up_set _ _ (by simp)), ?_, ?_⟩
    · obtain ⟨q1, q2, q3, q4, ⟨gl, ql, q5⟩, ⟨gb, qb, q6⟩, q7⟩ := hh2
      exact ⟨(ks_set_ne _ _ (Ne.symm (ks_neO ho2 q1))).trans q1, ⟨_, (ks_set_ne _ _ (Ne.symm n_ou_st)).trans q2.choose_spec⟩, ⟨_, (ks_set_ne _ _ (Ne.symm n_ou_wo)).trans q3.choose_spec⟩, ⟨_, (ks_set_ne _ _ (Ne.symm n_ou_si)).trans q4.choose_spec⟩, ⟨gl, ql, (ks_set_ne _ _ (Ne.symm n_ou_la)).trans q5⟩, ⟨gb, qb, (ks_set_ne _ _ (Ne.symm n_ou_be)).trans q6⟩, ⟨g2, hg2, (ks_set_ne _ _ (Ne.symm n_ou_tr)).trans ht2⟩⟩
    · rw [ks_set_same]
      refine congrArg some (congrArg (kB No) ?_)
      funext j
      unfold va_cpy ks_pt
      by_cases e : 0 ≤ j ∧ j < 0 + 32
      · rw [if_pos e, if_pos e, Nat.zero_add]
        exact h3 _ (by omega)
      · rw [if_neg e, if_neg e]
  by_cases e : c = 0
  · subst e
    refine ks_iload dX6_root_28 rfl rfl ?_
    refine ks_iconst (x := nI 1) dX6_root_30 (by decide) rfl ?_
    refine ks_icmp_leN (tgt := 112) (by decide) (by decide) dX6_root_31 (by decide) rfl (fun hc => ?_) (fun hc => absurd (by decide) hc)
    refine ks_sub [(0, _), (1, _), (2, _), (3, _)] rfl (fin S1 _ hh1 hK1 (ks_up.rf _ _) ht1 (kO_cpy hgi hg1 _ _ _) ?_)
    intro j hj
    rw [pk_cpy_out (by omega)]
    show _ = 0
    exact if_pos (by omega)
  · refine l_rootOut hne S1 (root_ gi c) fin c c gi (by omega) (by omega) hc (if_neg e).symm S1 _ hh1 hK1 (ks_up.rf _ _) ht1 (kO_cpy hgi hg1 _ _ _) ?_
    intro j hj
    rw [pk_cpy_in (by omega) (by omega)]
    congr 1
    omega

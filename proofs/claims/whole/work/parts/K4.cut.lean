/-! THE REFERENCE: the code that is signed -/
/-- the code at hand lies in one of two rows, the other one is free -/
def ctX (S : ks_S) (V : Nat → Value) (c : List Nat) : Prop := ∃ (a b : Nat) (ga gb : Nat → Nat), ((a = 371 ∧ b = 372) ∨ (a = 372 ∧ b = 371)) ∧ V 87 = .ref a ∧ V 88 = .ref b ∧ S.2.2 a = some (kB 1700 ga) ∧ kO ga ∧ S.2.2 b = some (kB 1700 gb) ∧ kO gb ∧ V 89 = .int (nI c.length) ∧ c.length ≤ 1700 ∧ c = bytL ga 0 c.length
abbrev LCt : List Nat := [290, 371, 372]
/-- what working on the code leaves -/
def ctK (S S' : ks_S) (V V' : Nat → Value) : Prop := ks_up S S' LCt ∧ S'.2.2 290 = some (rfE V') ∧ ∀ k, k ≠ 63 → k ≠ 87 → k ≠ 88 → k ≠ 89 → V' k = V k
theorem ctK.trans {S S1 S2 : ks_S} {V V1 V2 : Nat → Value} (h : ctK S S1 V V1) (k : ctK S1 S2 V1 V2) : ctK S S2 V V2 := ⟨h.1.trans k.1, k.2.1, fun j h1 h2 h3 h4 => (k.2.2 j h1 h2 h3 h4).trans (h.2.2 j h1 h2 h3 h4)⟩
theorem bytL_spq (f : Nat → Nat) (i : Nat) {n k : Nat} (h : k ≤ n) : bytL f i n = bytL f i k ++ bytL f (i + k) (n - k) := by
  rw [← bytL_take f i h, ← bytL_drop f i h, List.take_append_drop]
theorem bytL_pt2 {D g : Nat → Nat} {t n : Nat} : bytL (ks_pt D g t n) 0 (t + n) = bytL g 0 t ++ bytL D 0 n := by
  rw [bytL_spq _ 0 (show t ≤ t + n by omega), Nat.zero_add, Nat.add_sub_cancel_left]
  congr 1
  · exact bytL_congr (fun j hj => if_neg (by omega))
  · exact bytL_congr (fun j hj => by rw [ks_pt_in _ _ _ _ hj, Nat.zero_add])
set_option maxRecDepth 100000 in
set_option maxHeartbeats 800000 in
theorem l_load {l : Launch} {G : ks_G} {d : Nat} {S : ks_S} {V : Nat → Value} {P : Option Value → ks_S → Prop} {gd gs : Nat → Nat} {y N s n a : Nat} (hO : S.2.2 290 = some (rfE V)) (hs9 : S.2.2 y = some (kB N gs)) (kgs : kO gs) (hd9 : S.2.2 a = some (kB 1700 gd)) (kgd : kO gd) (v87 : V 87 = .ref a) (hn : s + n ≤ N) (hN : N < 2 ^ 28) (hn9 : n ≤ 1700) (ha9 : a = 371 ∨ a = 372) (hya : y ≠ a) (hk : ∀ S1 : ks_S, ks_up S S1 [a] → S1.2.2 a = some (kB 1700 (ks_pt (fun j => gs (s + j)) gd 0 n)) → kO (ks_pt (fun j => gs (s + j)) gd 0 n) → ks_X l G mX16_load d 28 [(0, .ref 290), (1, .ref y), (2, .int (nI s)), (3, .int (nI n))] [] S1 P) : ∀ (u i : Nat) (S1 : ks_S), i + u = n → ks_up S S1 [a] → S1.2.2 a = some (kB 1700 (ks_pt (fun j => gs (s + j)) gd 0 i)) → ks_X l G mX16_load d 3 [(0, .ref 290), (1, .ref y), (2, .int (nI s)), (3, .int (nI n)), (4, .int (nI i))] [] S1 P := by
  have kD : kO (fun j => gs (s + j)) := fun j => kgs _
  intro u
  induction u with
  | zero =>
    intro i S1 hi hu e1
    have o1 := hu.at hO (by simp only [List.mem_cons, List.not_mem_nil, or_false]; exact (by omega))
    have s1 := hu.at hs9 (by simp only [List.mem_cons, List.not_mem_nil, or_false]; exact (by omega))
    obtain rfl : i = n := hi
    refine ks_iload dX16_load_3 rfl rfl ?_
    refine ks_iload_n dX16_load_5 rfl rfl ?_
    refine ks_icmp_geN (tgt := 28) (by omega) (by omega) dX16_load_6 (by decide) rfl (fun h1 => ?_) (fun h1 => absurd h1 (by omega))
    refine ks_sub [(0, _), (1, _), (2, _), (3, _)] rfl ?_
    exact hk S1 hu e1 (kO_pt kD kgd _ _)
  | succ u ih =>
    intro i S1 hi hu e1
    have o1 := hu.at hO (by simp only [List.mem_cons, List.not_mem_nil, or_false]; exact (by omega))
    have s1 := hu.at hs9 (by simp only [List.mem_cons, List.not_mem_nil, or_false]; exact (by omega))
    refine ks_iload dX16_load_3 rfl rfl ?_
    refine ks_iload_n dX16_load_5 rfl rfl ?_
    refine ks_icmp_geN (tgt := 28) (by omega) (by omega) dX16_load_6 (by decide) rfl (fun h1 => absurd h1 (by omega)) (fun h1 => ?_)
    refine ks_aload_n dX16_load_9 rfl rfl ?_
    refine ks_getf (T := TX16) (kf := 87) kx_2455 rfl in_X16 cl_X16 (by decide) o1 rfl dX16_load_10 rfl ?_
    refine ks_tv v87 ?_
    refine ks_iload dX16_load_13 rfl rfl ?_
    refine ks_aload_n dX16_load_15 rfl rfl ?_
    refine ks_iload_n dX16_load_16 rfl rfl ?_
    refine ks_iload dX16_load_17 rfl rfl ?_
    refine ks_addN dX16_load_19 rfl ?_
    refine ks_baldB (i := s + i) s1 rfl (by omega) (by omega) dX16_load_20 rfl ?_
    refine ks_bastB (i := i) (c := gs (s + i)) e1 rfl (by omega) (by decide) (ks_by_b (kgs _)) dX16_load_21 rfl ?_
    refine ks_incN (c := 1) (e := i + 1) dX16_load_22 rfl (by decide) rfl (by decide) rfl ?_
    refine ks_sub [(4, _), (0, _), (1, _), (2, _), (3, _)] rfl ?_
    refine ks_goto (tgt := 3) dX16_load_25 (by decide) ?_
    refine ks_sub [(0, _), (1, _), (2, _), (3, _), (4, _)] rfl (ih (i + 1) _ (by omega) (hu.trans (ks_up_set _ _ (List.mem_singleton.mpr rfl))) ?_)
    rw [ks_set_same, ← ks_pt_s]
    rw [Nat.zero_add]
set_option maxRecDepth 100000 in
set_option maxHeartbeats 800000 in
theorem c_md_load {l : Launch} {G : ks_G} {d : Nat} {S : ks_S} {V : Nat → Value} {y N s n : Nat} {g : Nat → Nat} {c0 : List Nat} (hO : S.2.2 290 = some (rfE V)) (hC : ctX S V c0) (hy : S.2.2 y = some (kB N g)) (kg : kO g) (hn : s + n ≤ N) (hN : N < 2 ^ 28) (hn9 : n ≤ 1700) (hy9 : N ≠ 1700) : ks_P l G yX16_load mX16_load d [.ref 290, .ref y, .int (nI s), .int (nI n)] S (fun z S' => z = none ∧ ∃ V', ctK S S' V V' ∧ ctX S' V' (bytL g s n)) := by
  obtain ⟨a, b, ga, gb, hab, v87, v88, ea, ka, eb, kb, v89, hc, -⟩ := hC
  have ya : y ≠ a := fun h => by subst h; rw [hy] at ea; exact hy9 (kB_lq (Option.some.inj ea))
  refine ks_of (by decide) rfl rfl (Nat.le_of_ble_eq_true rfl) ?_
  show ks_X l G mX16_load d 0 [(0, .ref 290), (1, .ref y), (2, .int (nI s)), (3, .int (nI n))] [] S _
  refine ks_iconst (x := nI 0) dX16_load_0 (by decide) rfl ?_
  refine ks_istore dX16_load_1 (by decide) rfl ?_
  refine ks_sub [(4, _), (0, _), (1, _), (2, _), (3, _)] rfl ?_
  refine ks_sub [(0, _), (1, _), (2, _), (3, _), (4, _)] rfl (l_load hO hy kg ea ka v87 hn hN hn9 (by omega) ya (fun S1 u1 e1 k1 => ?_) n 0 S (by omega) (ks_up.rf _ _) (by rw [ks_pt_0]; exact ea))
  have o1 := u1.at hO (by rw [List.mem_singleton]; omega)
  have b1 := u1.at eb (by rw [List.mem_singleton]; omega)
  refine ks_aload_n dX16_load_28 rfl rfl ?_
  refine ks_iload_n dX16_load_29 rfl rfl ?_
  refine ks_putf (T := TX16) (kf := 89) kx_2457 rfl in_X16 tyX16_ok nmX16 cl_X16 (by decide) o1 (Nat.le_of_ble_eq_true rfl) rfl rfl rfl rfl dX16_load_30 rfl ?_
  refine md_put mdp_89 ?_
  refine ks_ret rfl dX16_load_33 ?_
  have hl : (bytL g s n).length = n := bytL_len _ _ _
  refine ⟨rfl, va_up V 89 (.int (nI n)), ⟨(u1.mono (fun x hx => by rw [List.mem_singleton] at hx; subst hx; rcases hab with h | h <;> rw [h.1] <;> decide)).trans (ks_up_set _ _ (by decide)), ks_set_same _ _ _, fun k _ _ _ h4 => va_up_ne _ _ h4⟩, a, b, _, gb, hab, (va_up_ne _ _ (by decide)).trans v87, (va_up_ne _ _ (by decide)).trans v88, (ks_set_ne _ _ (by omega)).trans e1, k1, (ks_set_ne _ _ (by omega)).trans b1, kb, by rw [va_up_self, hl], by rw [hl]; exact hn9, ?_⟩
  rw [hl]
  exact bytL_congr (fun j hj => (ks_pt_in (fun j => g (s + j)) ga 0 n hj).symm)
set_option maxRecDepth 100000 in
set_option maxHeartbeats 800000 in
theorem l_umCp {l : Launch} {G : ks_G} {d : Nat} {S : ks_S} {V : Nat → Value} {P : Option Value → ks_S → Prop} {a b L : Nat} {ga gb : Nat → Nat} (hO : S.2.2 290 = some (rfE V)) (hab : (a = 371 ∧ b = 372) ∨ (a = 372 ∧ b = 371)) (v87 : V 87 = .ref a) (v88 : V 88 = .ref b) (v89 : V 89 = .int (nI L)) (hL : L ≤ 1700) (ea : S.2.2 a = some (kB 1700 ga)) (ka : kO ga) (eb : S.2.2 b = some (kB 1700 gb)) (kb : kO gb) {i t nx : Nat} (hti : t ≤ i) (hin : i ≤ nx) (hnL : nx ≤ L) (hk : ∀ S1 : ks_S, ks_up S S1 [b] → S1.2.2 b = some (kB 1700 (ks_pt (fun j => ga (i + j)) gb t (nx - i))) → ks_X l G mX16_unmarked d 92 [(0, .ref 290), (1, .int (nI nx)), (2, .int (nI (t + (nx - i)))), (3, .int (nI nx)), (4, .int (nI 0))] [] S1 P) : ∀ (u q : Nat) (S1 : ks_S), q + u = nx - i → ks_up S S1 [b] → S1.2.2 b = some (kB 1700 (ks_pt (fun j => ga (i + j)) gb t q)) → ks_X l G mX16_unmarked d 58 [(0, .ref 290), (1, .int (nI (i + q))), (2, .int (nI (t + q))), (3, .int (nI nx)), (4, .int (nI 0))] [] S1 P := by
  have kD : kO (fun j => ga (i + j)) := fun j => ka _
  intro u
  induction u with
  | zero =>
    intro q S1 hq hu e1
    have o1 := hu.at hO (by rw [List.mem_singleton]; omega)
    have a1 := hu.at ea (by rw [List.mem_singleton]; omega)
    refine ks_iload_n dX16_unmarked_58 rfl rfl ?_
    refine ks_iload_n dX16_unmarked_59 rfl rfl ?_
    refine ks_icmp_geN (tgt := 92) (by omega) (by omega) dX16_unmarked_60 (by decide) rfl (fun h1 => ?_) (fun h1 => absurd h1 (by omega))
    obtain rfl : q = nx - i := hq
    exact ks_sub [(0, _), (1, .int (nI nx)), (2, _), (3, _), (4, _)] (by rw [show i + (nx - i) = nx by omega]; rfl) (hk S1 hu e1)
  | succ u ih =>
    intro q S1 hq hu e1
    have o1 := hu.at hO (by rw [List.mem_singleton]; omega)
    have a1 := hu.at ea (by rw [List.mem_singleton]; omega)
    refine ks_iload_n dX16_unmarked_58 rfl rfl ?_
    refine ks_iload_n dX16_unmarked_59 rfl rfl ?_
    refine ks_icmp_geN (tgt := 92) (by omega) (by omega) dX16_unmarked_60 (by decide) rfl (fun h1 => absurd h1 (by omega)) (fun h1 => ?_)
    refine ks_iload dX16_unmarked_63 rfl rfl ?_
    refine ks_if_eqN (tgt := 71) (by decide) dX16_unmarked_65 (by decide) rfl (fun _ => ?_) (fun h => absurd h (by decide))
    refine ks_aload_n dX16_unmarked_71 rfl rfl ?_
    refine ks_getf (T := TX16) (kf := 88) kx_2456 rfl in_X16 cl_X16 (by decide) o1 rfl dX16_unmarked_72 rfl ?_
    refine ks_tv v88 ?_
    refine ks_iload_n dX16_unmarked_75 rfl rfl ?_
    refine ks_aload_n dX16_unmarked_76 rfl rfl ?_
    refine ks_getf (T := TX16) (kf := 87) kx_2455 rfl in_X16 cl_X16 (by decide) o1 rfl dX16_unmarked_77 rfl ?_
    refine ks_tv v87 ?_
    refine ks_iload_n dX16_unmarked_80 rfl rfl ?_
    refine ks_baldB (i := i + q) a1 rfl (by omega) (by decide) dX16_unmarked_81 rfl ?_
    refine ks_bastB (i := t + q) (c := ga (i + q)) e1 rfl (by omega) (by decide) (ks_by_b (ka _)) dX16_unmarked_82 rfl ?_
    refine ks_incN (c := 1) (e := t + q + 1) dX16_unmarked_83 rfl (by decide) rfl (by decide) rfl ?_
    refine ks_sub [(2, _), (0, _), (3, _), (4, _), (1, _)] rfl ?_
    refine ks_incN (c := 1) (e := i + q + 1) dX16_unmarked_86 rfl (by decide) rfl (by decide) rfl ?_
    refine ks_sub [(1, _), (0, _), (3, _), (4, _), (2, _)] rfl ?_
    refine ks_goto (tgt := 58) dX16_unmarked_89 (by decide) ?_
    rw [show t + q + 1 = t + (q + 1) from rfl, show i + q + 1 = i + (q + 1) from rfl]
    refine ks_sub [(0, _), (1, _), (2, _), (3, _), (4, _)] rfl (ih (q + 1) _ (by omega) (hu.trans (ks_up_set _ _ (List.mem_singleton.mpr rfl))) ?_)
    rw [ks_set_same, ← ks_pt_s]
set_option maxRecDepth 100000 in
set_option maxHeartbeats 800000 in
theorem l_woCp {l : Launch} {G : ks_G} {d : Nat} {S : ks_S} {V : Nat → Value} {P : Option Value → ks_S → Prop} {a b L : Nat} {ga gb : Nat → Nat} (hO : S.2.2 290 = some (rfE V)) (hab : (a = 371 ∧ b = 372) ∨ (a = 372 ∧ b = 371)) (v87 : V 87 = .ref a) (v88 : V 88 = .ref b) (v89 : V 89 = .int (nI L)) (hL : L ≤ 1700) (ea : S.2.2 a = some (kB 1700 ga)) (ka : kO ga) (eb : S.2.2 b = some (kB 1700 gb)) (kb : kO gb) {i t nx y n h : Nat} (hti : t ≤ i) (hin : i ≤ nx) (hnL : nx ≤ L) (hk : ∀ S1 : ks_S, ks_up S S1 [b] → S1.2.2 b = some (kB 1700 (ks_pt (fun j => ga (i + j)) gb t (nx - i))) → ks_X l G mX16_without d 192 [(0, .ref 290), (1, .ref y), (2, .int (nI n)), (3, .int (nI h)), (4, .int (nI nx)), (5, .int (nI (t + (nx - i)))), (7, .int (nI nx))] [] S1 P) : ∀ (u q : Nat) (S1 : ks_S), q + u = nx - i → ks_up S S1 [b] → S1.2.2 b = some (kB 1700 (ks_pt (fun j => ga (i + j)) gb t q)) → ks_X l G mX16_without d 162 [(0, .ref 290), (1, .ref y), (2, .int (nI n)), (3, .int (nI h)), (4, .int (nI (i + q))), (5, .int (nI (t + q))), (7, .int (nI nx))] [] S1 P := by
  have kD : kO (fun j => ga (i + j)) := fun j => ka _
  intro u
  induction u with
  | zero =>
    intro q S1 hq hu e1
    have o1 := hu.at hO (by rw [List.mem_singleton]; omega)
    have a1 := hu.at ea (by rw [List.mem_singleton]; omega)
    refine ks_iload dX16_without_162 rfl rfl ?_
    refine ks_iload dX16_without_164 rfl rfl ?_
    refine ks_icmp_geN (tgt := 192) (by omega) (by omega) dX16_without_166 (by decide) rfl (fun h1 => ?_) (fun h1 => absurd h1 (by omega))
    obtain rfl : q = nx - i := hq
    exact ks_sub [(0, _), (1, _), (2, _), (3, _), (4, .int (nI nx)), (5, _), (7, _)] (by rw [show i + (nx - i) = nx by omega]; rfl) (hk S1 hu e1)
  | succ u ih =>
    intro q S1 hq hu e1
    have o1 := hu.at hO (by rw [List.mem_singleton]; omega)
    have a1 := hu.at ea (by rw [List.mem_singleton]; omega)
    refine ks_iload dX16_without_162 rfl rfl ?_
    refine ks_iload dX16_without_164 rfl rfl ?_
    refine ks_icmp_geN (tgt := 192) (by omega) (by omega) dX16_without_166 (by decide) rfl (fun h1 => absurd h1 (by omega)) (fun h1 => ?_)
    refine ks_aload_n dX16_without_169 rfl rfl ?_
    refine ks_getf (T := TX16) (kf := 88) kx_2456 rfl in_X16 cl_X16 (by decide) o1 rfl dX16_without_170 rfl ?_
    refine ks_tv v88 ?_
    refine ks_iload dX16_without_173 rfl rfl ?_
    refine ks_aload_n dX16_without_175 rfl rfl ?_
    refine ks_getf (T := TX16) (kf := 87) kx_2455 rfl in_X16 cl_X16 (by decide) o1 rfl dX16_without_176 rfl ?_
    refine ks_tv v87 ?_
    refine ks_iload dX16_without_179 rfl rfl ?_
    refine ks_baldB (i := i + q) a1 rfl (by omega) (by decide) dX16_without_181 rfl ?_
    refine ks_bastB (i := t + q) (c := ga (i + q)) e1 rfl (by omega) (by decide) (ks_by_b (ka _)) dX16_without_182 rfl ?_
    refine ks_incN (c := 1) (e := t + q + 1) dX16_without_183 rfl (by decide) rfl (by decide) rfl ?_
    refine ks_sub [(5, _), (0, _), (1, _), (2, _), (3, _), (7, _), (4, _)] rfl ?_
    refine ks_incN (c := 1) (e := i + q + 1) dX16_without_186 rfl (by decide) rfl (by decide) rfl ?_
    refine ks_sub [(4, _), (0, _), (1, _), (2, _), (3, _), (7, _), (5, _)] rfl ?_
    refine ks_goto (tgt := 162) dX16_without_189 (by decide) ?_
    rw [show t + q + 1 = t + (q + 1) from rfl, show i + q + 1 = i + (q + 1) from rfl]
    refine ks_sub [(0, _), (1, _), (2, _), (3, _), (4, _), (5, _), (7, _)] rfl (ih (q + 1) _ (by omega) (hu.trans (ks_up_set _ _ (List.mem_singleton.mpr rfl))) ?_)
    rw [ks_set_same, ← ks_pt_s]

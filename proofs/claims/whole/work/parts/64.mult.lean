/-! CURVE: multiply -/
/-- the limbs D in register o -/
def layF (R : Nat → Nat) (o : Nat) (D : Nat → Nat) (j : Nat) : Nat := if 9 * o ≤ j ∧ j < 9 * o + 9 then D (j - 9 * o) else lay R j
theorem layF_0 (R : Nat → Nat) (o : Nat) : layF R o (dL (R o)) = lay R := by
  funext j
  unfold layF
  split
  · next h =>
    obtain ⟨i, rfl⟩ : ∃ i, j = 9 * o + i := ⟨j - 9 * o, by omega⟩
    rw [lay_at R o (by omega), Nat.add_sub_cancel_left]
  · rfl
theorem layF_up (R : Nat → Nat) (o : Nat) (D : Nat → Nat) {i : Nat} (v : Nat) (h : i < 9) : va_up (layF R o D) (9 * o + i) v = layF R o (va_up D i v) := by
  funext j
  by_cases c : j = 9 * o + i
  · subst c
    rw [va_up_self]
    unfold layF
    rw [if_pos (by omega), Nat.add_sub_cancel_left, va_up_self]
  · rw [va_up_ne _ _ c]
    unfold layF
    split
    · rw [va_up_ne _ _ (by omega)]
    · rfl
theorem layF_rd (R : Nat → Nat) (o : Nat) (D : Nat → Nat) {i : Nat} (h : i < 9) : layF R o D (9 * o + i) = D i := by
  unfold layF
  rw [if_pos (by omega), Nat.add_sub_cancel_left]
theorem layF_ne (R : Nat → Nat) {o x : Nat} (D : Nat → Nat) {i : Nat} (h : i < 9) (hx : x ≠ o) : layF R o D (9 * x + i) = dL (R x) i := by
  unfold layF
  rw [if_neg (by omega), lay_at R x h]
theorem layF_lay {R : Nat → Nat} {o v : Nat} {D : Nat → Nat} (hD : ∀ k, k < 9 → D k < 536870912) (hv : dg 536870912 D 9 = v) : layF R o D = lay (va_up R o v) := by
  funext j
  rw [← layP_9]
  unfold layF layP
  split
  · next h => exact dL_of hD hv _ (by omega)
  · rfl
theorem dg_9 (f : Nat → Nat) : dg 536870912 f 9 = f 0 + 536870912 * (f 1 + 536870912 * (f 2 + 536870912 * (f 3 + 536870912 * (f 4 + 536870912 * (f 5 + 536870912 * (f 6 + 536870912 * (f 7 + 536870912 * f 8))))))) := by
  simp only [dg]
  omega
theorem pP_lt : pP < 2 ^ 256 := by decide
abbrev cvO (ir : Bool) : ks_E := .inr (6, [.ref 15, .ref 17, .ref 19, .int (ks_bo ir)])
theorem va_up_up {α : Type} (f : Nat → α) (i : Nat) (a b : α) : va_up (va_up f i a) i b = va_up f i b := by
  funext q
  by_cases e : q = i
  · rw [e, va_up_self, va_up_self]
  · rw [va_up_ne _ _ e, va_up_ne _ _ e, va_up_ne _ _ e]
set_option maxRecDepth 100000 in
set_option maxHeartbeats 2000000 in
theorem l_mlSub {l : Launch} {G : ks_G} {d : Nat} {S : ks_S} {R : Nat → Nat} {ir : Bool} {o W : Nat} (hF : fdX S 15 16 100 R) (ho100 : o < 100) (hR : R 100 = pP) (hW : W < 2 * pP) (hle : pP ≤ W) {x y : Int32} : ∀ c i (S1 : ks_S), i + c = 9 → ks_up S S1 [16] → S1.2.2 14 = some (cvO ir) → S1.2.2 15 = some (.inr (8, [.ref 16, .int (nI (9 * 100)), .int (nI (9 * (100 + 1))), .int (nI (9 * (100 + 2))), .int (nI (9 * (100 + 3))), .int (nI (9 * (100 + 4)))])) → S1.2.2 16 = some (kL 945 (layP (va_up R o W) o (W + 3705346855594118253554271520278013051304639509300498049262642688253220148477952 - pP) i)) → ks_X l G mX3_multiply d 1249 [(0, .ref 14), (1, .int (nI (9 * o))), (4, .ref 16), (75, .long (iL (-((cyB W pP i : Nat) : Int)))), (81, .int (nI (9 * 100))), (83, .int (ks_bo true)), (84, .int (nI i))] [] S1 (fun z S' => z = none ∧ ks_up S S' [16] ∧ fdX S' 15 16 100 (va_up R o (W % pP))) := by
  have pl : pP < 3705346855594118253554271520278013051304639509300498049262642688253220148477952 := by decide
  intro c
  induction c with
  | zero =>
    intro i S1 hi hu ho hf hc
    refine ks_iload dX3_multiply_1249 rfl rfl ?_
    refine ks_bipush (x := nI 9) dX3_multiply_1251 (by decide) rfl ?_
    refine ks_icmp_geN (tgt := 1308) (by omega) (by decide) dX3_multiply_1253 (by decide) rfl (fun h1 => ?_) (fun h1 => ?_)
    · refine ks_ret rfl dX3_multiply_1308 ?_
      obtain rfl : i = 9 := by omega
      have e9 : layP (va_up R o W) o (W + 3705346855594118253554271520278013051304639509300498049262642688253220148477952 - pP) 9 = lay (va_up R o (W % pP)) := by
        rw [layP_9, show va_up (va_up R o W) o (W + 3705346855594118253554271520278013051304639509300498049262642688253220148477952 - pP) = va_up R o (W + 3705346855594118253554271520278013051304639509300498049262642688253220148477952 - pP) from va_up_up _ _ _ _]
        rw [← layP_9, ← layP_9]
        refine layP_cong ?_ (Nat.le_refl 9)
        have em : W % pP = W - pP := by rw [Nat.mod_eq_sub_mod hle, Nat.mod_eq_of_lt (by omega)]
        rw [em]
        omega
      rw [e9] at hc
      exact ⟨rfl, hu, hF.mk hu hc (by have := Nat.mod_lt W (show 0 < pP by decide); omega)⟩
    · omega
  | succ c ih =>
    intro i S1 hi hu ho hf hc
    refine ks_iload dX3_multiply_1249 rfl rfl ?_
    refine ks_bipush (x := nI 9) dX3_multiply_1251 (by decide) rfl ?_
    refine ks_icmp_geN (tgt := 1308) (by omega) (by decide) dX3_multiply_1253 (by decide) rfl (fun h1 => ?_) (fun h1 => ?_)
    · omega
    · refine ks_iload dX3_multiply_1256 rfl rfl ?_
      refine ks_if_eqZ (tgt := 1308) dX3_multiply_1258 (by decide) rfl (fun h2 => ?_) (fun h2 => ?_)
      · exact absurd h2 (by decide)
      · refine ks_lload dX3_multiply_1261 rfl rfl ?_
        refine ks_aload dX3_multiply_1263 rfl rfl ?_
        refine ks_iload_n dX3_multiply_1265 rfl rfl ?_
        refine ks_iload dX3_multiply_1266 rfl rfl ?_
        refine ks_addN dX3_multiply_1268 rfl ?_
        refine ks_laldN (i := 9 * o + i) hc rfl (by omega) (by decide) dX3_multiply_1269 rfl ?_
        rw [layP_rd _ _ _ (x := o) (by omega), va_up_self]
        refine ks_aload dX3_multiply_1270 rfl rfl ?_
        refine ks_iload dX3_multiply_1272 rfl rfl ?_
        refine ks_iload dX3_multiply_1274 rfl rfl ?_
        refine ks_addN dX3_multiply_1276 rfl ?_
        refine ks_laldN (i := 9 * 100 + i) hc rfl (by omega) (by decide) dX3_multiply_1277 rfl ?_
        rw [layP_rd _ _ _ (x := 100) (by omega), va_up_ne _ _ (show 100 ≠ o by omega), hR]
        have d1 := dL_lt W i
        have d2 := dL_lt pP i
        obtain ⟨s1, s2⟩ := sub_step (x := W) (y := pP) (i := i) pl (by omega)
        have cl := cyB_le W pP i
        refine ks_lsub dX3_multiply_1278 rfl ?_
        refine ks_tl (y := iL ((dL W i : Nat) - (dL pP i : Nat))) (iL_sub ((dL W i : Nat) : Int) ((dL pP i : Nat) : Int)) ?_
        refine ks_ladd dX3_multiply_1279 rfl ?_
        refine ks_tl (y := iL (((dL W i : Nat) : Int) - (dL pP i : Nat) - (cyB W pP i : Nat))) (by rw [iL_add]; congr 1; omega) ?_
        refine ks_lstore dX3_multiply_1280 (by decide) rfl ?_
        refine ks_sub [(75, _), (0, _), (1, _), (4, _), (81, _), (83, _), (84, _)] rfl ?_
        refine ks_aload dX3_multiply_1282 rfl rfl ?_
        refine ks_iload_n dX3_multiply_1284 rfl rfl ?_
        refine ks_iload dX3_multiply_1285 rfl rfl ?_
        refine ks_addN dX3_multiply_1287 rfl ?_
        refine ks_lload dX3_multiply_1288 rfl rfl ?_
        refine ks_ldc2 dX3_multiply_1290 kx_506 rfl ?_
        refine ks_tl (y := lN 536870911) rfl ?_
        refine ks_land dX3_multiply_1293 rfl ?_
        refine ks_tl (y := lN (dL (W + 3705346855594118253554271520278013051304639509300498049262642688253220148477952 - pP) i)) ((sg_mask d1 d2 cl).trans (congrArg lN s1)) ?_
        refine ks_lastNN (i := 9 * o + i) (v := dL (W + 3705346855594118253554271520278013051304639509300498049262642688253220148477952 - pP) i) hc (by omega) (by decide) dX3_multiply_1294 rfl ?_
        refine ks_tS (by rw [layP_up]) ?_
        refine ks_lload dX3_multiply_1295 rfl rfl ?_
        refine ks_bipush (x := nI 29) dX3_multiply_1297 (by decide) rfl ?_
        refine ks_lshr dX3_multiply_1299 rfl ?_
        refine ks_tl (y := iL (-((cyB W pP (i + 1) : Nat) : Int))) (by rw [sg_shr d1 d2 cl, s2]) ?_
        refine ks_lstore dX3_multiply_1300 (by decide) rfl ?_
        refine ks_sub [(75, _), (0, _), (1, _), (4, _), (81, _), (83, _), (84, _)] rfl ?_
        refine ks_incN (c := 1) (e := i + 1) dX3_multiply_1302 rfl (by decide) rfl (by decide) rfl ?_
        refine ks_sub [(84, _), (0, _), (1, _), (4, _), (75, _), (81, _), (83, _)] rfl ?_
        refine ks_goto (tgt := 1249) dX3_multiply_1305 (by decide) ?_
        exact ks_sub [(0, _), (1, _), (4, _), (75, _), (81, _), (83, _), (84, _)] rfl (ih (i + 1) _ (by omega) (hu.trans (ks_up_set _ _ (by decide))) ((ks_set_ne _ _ (by decide)).trans ho) ((ks_set_ne _ _ (by decide)).trans hf) (ks_set_same _ _ _))
set_option maxRecDepth 100000 in
set_option maxHeartbeats 2000000 in
theorem l_mlFin {l : Launch} {G : ks_G} {d : Nat} {S : ks_S} {R : Nat → Nat} {ir : Bool} {o W : Nat} (hF : fdX S 15 16 100 R) (ho100 : o < 100) (hR : R 100 = pP) (hW : W < 2 * pP) {j : Nat} {S1 : ks_S} (hj : j < 9) (hu : ks_up S S1 [16]) (ho : S1.2.2 14 = some (cvO ir)) (hf : S1.2.2 15 = some (.inr (8, [.ref 16, .int (nI (9 * 100)), .int (nI (9 * (100 + 1))), .int (nI (9 * (100 + 2))), .int (nI (9 * (100 + 3))), .int (nI (9 * (100 + 4)))]))) (hc : S1.2.2 16 = some (kL 945 (lay (va_up R o W)))) (he : ∀ k, j < k → k < 9 → dL W k = dL pP k) (hor : j = 0 ∨ ¬ dL W j = dL pP j) : ks_X l G mX3_multiply d 1217 [(0, .ref 14), (1, .int (nI (9 * o))), (4, .ref 16), (81, .int (nI (9 * 100))), (82, .int (nI j))] [] S1 (fun z S' => z = none ∧ ks_up S S' [16] ∧ fdX S' 15 16 100 (va_up R o (W % pP))) := by
  have pl : pP < 3705346855594118253554271520278013051304639509300498049262642688253220148477952 := by decide
  have wl : W < 3705346855594118253554271520278013051304639509300498049262642688253220148477952 := Nat.lt_trans hW (by decide)
  have cm := dL_cmp wl pl hj he
  have d1 := dL_lt W j
  have d2 := dL_lt pP j
  refine ks_aload dX3_multiply_1217 rfl rfl ?_
  refine ks_iload_n dX3_multiply_1219 rfl rfl ?_
  refine ks_iload dX3_multiply_1220 rfl rfl ?_
  refine ks_addN dX3_multiply_1222 rfl ?_
  refine ks_laldN (i := 9 * o + j) hc rfl (by omega) (by decide) dX3_multiply_1223 rfl ?_
  refine ks_aload dX3_multiply_1224 rfl rfl ?_
  refine ks_iload dX3_multiply_1226 rfl rfl ?_
  refine ks_iload dX3_multiply_1228 rfl rfl ?_
  refine ks_addN dX3_multiply_1230 rfl ?_
  refine ks_laldN (i := 9 * 100 + j) hc rfl (by omega) (by decide) dX3_multiply_1231 rfl ?_
  rw [lay_at _ o (by omega), va_up_self, lay_at _ 100 (by omega), va_up_ne _ _ (show 100 ≠ o by omega), hR]
  refine ks_lif_ltN (tgt := 1240) (by omega) (by omega) dX3_multiply_1232 rfl dX3_multiply_1233 (by decide) rfl (fun h2 => ?_) (fun h2 => ?_)
  · refine ks_sub [(0, _), (1, _), (4, _), (81, _)] rfl ?_
    refine ks_iconst (x := nI 0) dX3_multiply_1240 (by decide) rfl ?_
    refine ks_istore dX3_multiply_1241 (by decide) rfl ?_
    refine ks_sub [(83, _), (0, _), (1, _), (4, _), (81, _)] rfl ?_
    refine ks_lconst (x := lN 0) dX3_multiply_1243 (by decide) rfl ?_
    refine ks_lstore dX3_multiply_1244 (by decide) rfl ?_
    refine ks_sub [(75, _), (0, _), (1, _), (4, _), (81, _), (83, _)] rfl ?_
    refine ks_iconst (x := nI 0) dX3_multiply_1246 (by decide) rfl ?_
    refine ks_istore dX3_multiply_1247 (by decide) rfl ?_
    refine ks_sub [(84, _), (0, _), (1, _), (4, _), (81, _), (83, _), (75, _)] rfl ?_
    have hlt : W < pP := cm.1 h2
    refine ks_iload dX3_multiply_1249 rfl rfl ?_
    refine ks_bipush (x := nI 9) dX3_multiply_1251 (by decide) rfl ?_
    refine ks_icmp_geN (tgt := 1308) (by decide) (by decide) dX3_multiply_1253 (by decide) rfl (fun h3 => ?_) (fun h3 => ?_)
    · exact absurd h3 (by decide)
    · refine ks_iload dX3_multiply_1256 rfl rfl ?_
      refine ks_if_eqN (tgt := 1308) (by decide) dX3_multiply_1258 (by decide) rfl (fun h4 => ?_) (fun h4 => ?_)
      · refine ks_ret rfl dX3_multiply_1308 ?_
        exact ⟨rfl, hu, hF.mk hu (by rw [Nat.mod_eq_of_lt hlt]; exact hc) (by have := Nat.mod_lt W (show 0 < pP by decide); omega)⟩
      · exact absurd h4 (by decide)
  · refine ks_sub [(0, _), (1, _), (4, _), (81, _)] rfl ?_
    refine ks_iconst (x := nI 1) dX3_multiply_1236 (by decide) rfl ?_
    refine ks_goto (tgt := 1241) dX3_multiply_1237 (by decide) ?_
    refine ks_istore dX3_multiply_1241 (by decide) rfl ?_
    refine ks_sub [(83, _), (0, _), (1, _), (4, _), (81, _)] rfl ?_
    refine ks_lconst (x := lN 0) dX3_multiply_1243 (by decide) rfl ?_
    refine ks_lstore dX3_multiply_1244 (by decide) rfl ?_
    refine ks_sub [(75, _), (0, _), (1, _), (4, _), (81, _), (83, _)] rfl ?_
    refine ks_iconst (x := nI 0) dX3_multiply_1246 (by decide) rfl ?_
    refine ks_istore dX3_multiply_1247 (by decide) rfl ?_
    refine ks_sub [(84, _), (0, _), (1, _), (4, _), (81, _), (83, _), (75, _)] rfl ?_
    have hle : pP ≤ W := by
      rcases hor with h0 | h0
      · subst h0
        by_cases e7 : dL W 0 = dL pP 0
        · exact Nat.le_of_eq (dL_eq wl pl (fun k hk => by rcases Nat.eq_zero_or_pos k with h | h; rw [h]; exact e7; exact he k h hk)).symm
        · exact Nat.le_of_lt (cm.2 (by omega))
      · exact Nat.le_of_lt (cm.2 (by omega))
    have h7 := l_mlSub (l := l) (G := G) (d := d) (x := 0) (y := 0) hF ho100 hR hW hle 9 0 S1 (by decide) hu ho hf (by rw [layP_0]; exact hc)
    rw [cyB_0] at h7
    exact ks_sub [(0, _), (1, _), (4, _), (75, _), (81, _), (83, _), (84, _)] rfl h7
set_option maxRecDepth 100000 in
set_option maxHeartbeats 2000000 in
theorem l_mlCmp {l : Launch} {G : ks_G} {d : Nat} {S : ks_S} {R : Nat → Nat} {ir : Bool} {o W : Nat} (hF : fdX S 15 16 100 R) (ho100 : o < 100) (hR : R 100 = pP) (hW : W < 2 * pP) : ∀ j (S1 : ks_S), j < 9 → ks_up S S1 [16] → S1.2.2 14 = some (cvO ir) → S1.2.2 15 = some (.inr (8, [.ref 16, .int (nI (9 * 100)), .int (nI (9 * (100 + 1))), .int (nI (9 * (100 + 2))), .int (nI (9 * (100 + 3))), .int (nI (9 * (100 + 4)))])) → S1.2.2 16 = some (kL 945 (lay (va_up R o W))) → (∀ k, j < k → k < 9 → dL W k = dL pP k) → ks_X l G mX3_multiply d 1187 [(0, .ref 14), (1, .int (nI (9 * o))), (4, .ref 16), (81, .int (nI (9 * 100))), (82, .int (nI j))] [] S1 (fun z S' => z = none ∧ ks_up S S' [16] ∧ fdX S' 15 16 100 (va_up R o (W % pP))) := by
  intro j
  induction j with
  | zero =>
    intro S1 hj hu ho hf hc he
    refine ks_iload dX3_multiply_1187 rfl rfl ?_
    refine ks_if_leN (tgt := 1217) (by decide) dX3_multiply_1189 (by decide) rfl (fun h1 => ?_) (fun h1 => ?_)
    · exact l_mlFin hF ho100 hR hW hj hu ho hf hc he (Or.inl rfl)
    · omega
  | succ j ih =>
    intro S1 hj hu ho hf hc he
    refine ks_iload dX3_multiply_1187 rfl rfl ?_
    refine ks_if_leN (tgt := 1217) (by omega) dX3_multiply_1189 (by decide) rfl (fun h1 => ?_) (fun h1 => ?_)
    · omega
    · refine ks_aload dX3_multiply_1192 rfl rfl ?_
      refine ks_iload_n dX3_multiply_1194 rfl rfl ?_
      refine ks_iload dX3_multiply_1195 rfl rfl ?_
      refine ks_addN dX3_multiply_1197 rfl ?_
      refine ks_laldN (i := 9 * o + (j + 1)) hc rfl (by omega) (by decide) dX3_multiply_1198 rfl ?_
      refine ks_aload dX3_multiply_1199 rfl rfl ?_
      refine ks_iload dX3_multiply_1201 rfl rfl ?_
      refine ks_iload dX3_multiply_1203 rfl rfl ?_
      refine ks_addN dX3_multiply_1205 rfl ?_
      refine ks_laldN (i := 9 * 100 + (j + 1)) hc rfl (by omega) (by decide) dX3_multiply_1206 rfl ?_
      rw [lay_at _ o (by omega), va_up_self, lay_at _ 100 (by omega), va_up_ne _ _ (show 100 ≠ o by omega), hR]
      have d1 := dL_lt W (j + 1)
      have d2 := dL_lt pP (j + 1)
      refine ks_lif_neN (tgt := 1217) (by omega) (by omega) dX3_multiply_1207 rfl dX3_multiply_1208 (by decide) rfl (fun h2 => ?_) (fun h2 => ?_)
      · exact l_mlFin hF ho100 hR hW hj hu ho hf hc he (Or.inr h2)
      · refine ks_decN (e := (j + 1) - 1) dX3_multiply_1211 rfl (by decide) (by omega) (by decide) rfl ?_
        refine ks_sub [(82, _), (0, _), (1, _), (4, _), (81, _)] rfl ?_
        refine ks_goto (tgt := 1187) dX3_multiply_1214 (by decide) ?_
        exact ks_sub [(0, _), (1, _), (4, _), (81, _), (82, _)] rfl (ih S1 (by omega) hu ho hf hc (fun k hk hk9 => by
          rcases Nat.lt_or_eq_of_le (Nat.succ_le_of_lt hk) with h | h
          · exact he k h hk9
          · rw [← h]; exact h2))
set_option maxRecDepth 100000 in
set_option maxHeartbeats 2000000 in
theorem l_mlCarry {l : Launch} {G : ks_G} {d : Nat} {S : ks_S} {R : Nat → Nat} {ir : Bool} {o W : Nat} (hF : fdX S 15 16 100 R) (ho100 : o < 100) (hR : R 100 = pP) (hW : W < 2 * pP) : ∀ n i c (S1 : ks_S) (D : Nat → Nat), i + n = 9 → c < 2 ^ 40 → (∀ k, k < 9 → D k < 536870912) → dg 536870912 D 9 + c * 536870912 ^ i = W → ks_up S S1 [16] → S1.2.2 14 = some (cvO ir) → S1.2.2 15 = some (.inr (8, [.ref 16, .int (nI (9 * 100)), .int (nI (9 * (100 + 1))), .int (nI (9 * (100 + 2))), .int (nI (9 * (100 + 3))), .int (nI (9 * (100 + 4)))])) → S1.2.2 16 = some (kL 945 (layF R o D)) → ks_X l G mX3_multiply d 1122 [(0, .ref 14), (1, .int (nI (9 * o))), (4, .ref 16), (75, .long (lN c)), (81, .int (nI i))] [] S1 (fun z S' => z = none ∧ ks_up S S' [16] ∧ fdX S' 15 16 100 (va_up R o (W % pP))) := by
  have wl : W < 3705346855594118253554271520278013051304639509300498049262642688253220148477952 := Nat.lt_trans hW (by decide)
  intro n
  induction n with
  | zero =>
    intro i c S1 D hi hcb hD hw hu ho hf hc
    refine ks_iload dX3_multiply_1122 rfl rfl ?_
    refine ks_bipush (x := nI 9) dX3_multiply_1124 (by decide) rfl ?_
    refine ks_icmp_geN (tgt := 1174) (by omega) (by decide) dX3_multiply_1126 (by decide) rfl (fun h1 => ?_) (fun h1 => ?_)
    · refine ks_sub [(0, _), (1, _), (4, _)] rfl ?_
      refine ks_aload_n dX3_multiply_1174 rfl rfl ?_
      refine ks_getf (T := TX3) (kf := 0) kx_535 rfl in_X3 cl_X3 (by decide) ho rfl dX3_multiply_1175 rfl ?_
      refine ks_getf (T := TX5) (kf := 1) kx_124 rfl in_X5 cl_X5 (by decide) hf rfl dX3_multiply_1178 rfl ?_
      refine ks_istore dX3_multiply_1181 (by decide) rfl ?_
      refine ks_sub [(81, _), (0, _), (1, _), (4, _)] rfl ?_
      refine ks_bipush (x := nI 8) dX3_multiply_1183 (by decide) rfl ?_
      refine ks_istore dX3_multiply_1185 (by decide) rfl ?_
      refine ks_sub [(82, _), (0, _), (1, _), (4, _), (81, _)] rfl ?_
      obtain rfl : i = 9 := by omega
      have h0 : c = 0 := by
        rcases Nat.eq_zero_or_pos c with h | h
        · exact h
        · have h8 : 1 * 536870912 ^ 9 ≤ c * 536870912 ^ 9 := Nat.mul_le_mul_right _ h
          rw [show 1 * 536870912 ^ 9 = 3705346855594118253554271520278013051304639509300498049262642688253220148477952 by decide] at h8
          omega
      rw [h0, Nat.zero_mul, Nat.add_zero] at hw
      rw [layF_lay hD hw] at hc
      exact ks_sub [(0, _), (1, _), (4, _), (81, _), (82, _)] rfl (l_mlCmp hF ho100 hR hW 8 S1 (by decide) hu ho hf hc (fun k hk hk9 => absurd hk (by omega)))
    · omega
  | succ n ih =>
    intro i c S1 D hi hcb hD hw hu ho hf hc
    refine ks_iload dX3_multiply_1122 rfl rfl ?_
    refine ks_bipush (x := nI 9) dX3_multiply_1124 (by decide) rfl ?_
    refine ks_icmp_geN (tgt := 1174) (by omega) (by decide) dX3_multiply_1126 (by decide) rfl (fun h1 => ?_) (fun h1 => ?_)
    · omega
    · refine ks_lload dX3_multiply_1129 rfl rfl ?_
      refine ks_lconst (x := lN 0) dX3_multiply_1131 (by decide) rfl ?_
      refine ks_lif_eqN (tgt := 1174) (by omega) (by decide) dX3_multiply_1132 rfl dX3_multiply_1133 (by decide) rfl (fun h2 => ?_) (fun h2 => ?_)
      · refine ks_sub [(0, _), (1, _), (4, _)] rfl ?_
        refine ks_aload_n dX3_multiply_1174 rfl rfl ?_
        refine ks_getf (T := TX3) (kf := 0) kx_535 rfl in_X3 cl_X3 (by decide) ho rfl dX3_multiply_1175 rfl ?_
        refine ks_getf (T := TX5) (kf := 1) kx_124 rfl in_X5 cl_X5 (by decide) hf rfl dX3_multiply_1178 rfl ?_
        refine ks_istore dX3_multiply_1181 (by decide) rfl ?_
        refine ks_sub [(81, _), (0, _), (1, _), (4, _)] rfl ?_
        refine ks_bipush (x := nI 8) dX3_multiply_1183 (by decide) rfl ?_
        refine ks_istore dX3_multiply_1185 (by decide) rfl ?_
        refine ks_sub [(82, _), (0, _), (1, _), (4, _), (81, _)] rfl ?_
        have h0 : c = 0 := h2
        rw [h0, Nat.zero_mul, Nat.add_zero] at hw
        rw [layF_lay hD hw] at hc
        exact ks_sub [(0, _), (1, _), (4, _), (81, _), (82, _)] rfl (l_mlCmp hF ho100 hR hW 8 S1 (by decide) hu ho hf hc (fun k hk hk9 => absurd hk (by omega)))
      · refine ks_lload dX3_multiply_1136 rfl rfl ?_
        refine ks_aload dX3_multiply_1138 rfl rfl ?_
        refine ks_iload_n dX3_multiply_1140 rfl rfl ?_
        refine ks_iload dX3_multiply_1141 rfl rfl ?_
        refine ks_addN dX3_multiply_1143 rfl ?_
        refine ks_laldN (i := 9 * o + i) hc rfl (by omega) (by decide) dX3_multiply_1144 rfl ?_
        rw [layF_rd R o D (by omega)]
        have dd := hD i (by omega)
        refine ks_laddN dX3_multiply_1145 rfl ?_
        refine ks_lstore dX3_multiply_1146 (by decide) rfl ?_
        refine ks_sub [(75, _), (0, _), (1, _), (4, _), (81, _)] rfl ?_
        refine ks_aload dX3_multiply_1148 rfl rfl ?_
        refine ks_iload_n dX3_multiply_1150 rfl rfl ?_
        refine ks_iload dX3_multiply_1151 rfl rfl ?_
        refine ks_addN dX3_multiply_1153 rfl ?_
        refine ks_lload dX3_multiply_1154 rfl rfl ?_
        refine ks_ldc2 dX3_multiply_1156 kx_506 rfl ?_
        refine ks_tl (y := lN 536870911) rfl ?_
        refine ks_landN (k := 29) (p := 536870912) (by decide) (by decide) (by decide) (by omega) dX3_multiply_1159 rfl ?_
        refine ks_lastNN (i := 9 * o + i) (v := (c + (D i)) % 536870912) hc (by omega) (by decide) dX3_multiply_1160 rfl ?_
        refine ks_tS (by rw [layF_up _ _ _ _ (by omega)]) ?_
        refine ks_lload dX3_multiply_1161 rfl rfl ?_
        refine ks_bipush (x := nI 29) dX3_multiply_1163 (by decide) rfl ?_
        refine ks_lushrN (k := 29) (by decide) (by omega) dX3_multiply_1165 rfl ?_
        refine ks_lstore dX3_multiply_1166 (by decide) rfl ?_
        refine ks_sub [(75, _), (0, _), (1, _), (4, _), (81, _)] rfl ?_
        refine ks_incN (c := 1) (e := i + 1) dX3_multiply_1168 rfl (by decide) rfl (by decide) rfl ?_
        refine ks_sub [(81, _), (0, _), (1, _), (4, _), (75, _)] rfl ?_
        refine ks_goto (tgt := 1122) dX3_multiply_1171 (by decide) ?_
        refine ks_sub [(0, _), (1, _), (4, _), (75, _), (81, _)] rfl (ih (i + 1) _ _ _ (by omega) (by omega) ?_ ?_ (hu.trans (ks_up_set _ _ (by decide))) ((ks_set_ne _ _ (by decide)).trans ho) ((ks_set_ne _ _ (by decide)).trans hf) (ks_set_same _ _ _))
        · intro k hk
          by_cases e : k = i
          · rw [e, va_up_self]; exact Nat.mod_lt _ (by decide)
          · rw [va_up_ne _ _ e]; exact hD k hk
        · have e1 := dg_up (B := 536870912) (f := D) (c := (c + D i) % 536870912) (show i < 9 by omega)
          have e2 := Nat.div_add_mod (c + D i) 536870912
          rw [Nat.pow_succ 536870912 i]
          have e3 : (c + D i) / 2 ^ 29 * (536870912 ^ i * 536870912) + (c + D i) % 536870912 * 536870912 ^ i = (c + D i) * 536870912 ^ i := by
            conv => rhs; rw [← e2]
            show (c + D i) / 536870912 * (536870912 ^ i * 536870912) + _ = _
            rw [Nat.add_mul]
            grind
          rw [Nat.add_mul c] at e3
          rw [← hw]
          generalize (c + D i) / 2 ^ 29 * (536870912 ^ i * 536870912) = Q at *
          generalize (c + D i) % 536870912 * 536870912 ^ i = M at *
          generalize c * 536870912 ^ i = C at *
          generalize D i * 536870912 ^ i = E at *
          omega

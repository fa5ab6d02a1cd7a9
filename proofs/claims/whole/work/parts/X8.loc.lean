/-! COINS: what connecting does looks at kept blocks alone -/
def agB (n : Nat) (B B' : Nat → Bk) : Prop := ∀ i, i < n → bkM (B' i) = bkM (B i) ∧ bkH (B' i) = bkH (B i)
theorem getD_bd {n : Nat} {B : Nat → Bk} {R : List Nat} (h0 : 0 < n) (h : ∀ x ∈ R, rmK n B x) (j : Nat) : R.getD j 0 / 3072 < n := by
  by_cases c : j < R.length
  · exact (h _ (mem_gd.mpr ⟨j, c, rfl⟩)).1
  · rw [List.getD_eq_getElem?_getD, List.getElem?_eq_none (by omega)]
    show 0 / 3072 < n
    omega
theorem plR_l {n : Nat} {B B' : Nat → Bk} (ag : agB n B B') (h0 : 0 < n) {R : List Nat} (h : ∀ x ∈ R, rmK n B x) (ix : Nat) (id : Nat → Nat) : plR B' ix id R = plR B ix id R := by
  unfold plR
  refine plD_congr (fun j _ _ => ?_)
  unfold rmIs
  rw [(ag _ (getD_bd h0 h j)).1]
theorem fiR_l {n : Nat} {B B' : Nat → Bk} (ag : agB n B B') (h0 : 0 < n) {R : List Nat} (h : ∀ x ∈ R, rmK n B x) (M : List Nat) (t i : Nat) : fiR B' M t R i = fiR B M t R i := by
  unfold fiR
  exact plR_l ag h0 h _ _
theorem rmV_l {n : Nat} {B B' : Nat → Bk} (ag : agB n B B') {x : Nat} (h : x / 3072 < n) : rmV B' x = rmV B x := by
  unfold rmV
  rw [(ag _ h).1]
theorem fcR_l {n : Nat} {B B' : Nat → Bk} (ag : agB n B B') (h0 : 0 < n) {R : List Nat} (h : ∀ x ∈ R, rmK n B x) (M : List Nat) (t h9 : Nat) : ∀ (u i s : Nat), fcR B' M t h9 R u i s = fcR B M t h9 R u i s
  | 0, _, _ => rfl
  | u + 1, i, s => by
    have e1 := fiR_l ag h0 h M t i
    have e2 := getD_bd h0 h (fiR B M t R i - 1)
    show (if fiR B' M t R i = 0 then (11, s) else if R.getD (fiR B' M t R i - 1) 0 / 256 % 12 = 0 ∧ h9 - bkH (B' (R.getD (fiR B' M t R i - 1) 0 / 3072)) < 3 then (12, s) else if 2100000000000000 < s + rmV B' (R.getD (fiR B' M t R i - 1) 0) then (13, s + rmV B' (R.getD (fiR B' M t R i - 1) 0)) else fcR B' M t h9 R u (i + 1) (s + rmV B' (R.getD (fiR B' M t R i - 1) 0))) = (if fiR B M t R i = 0 then (11, s) else if R.getD (fiR B M t R i - 1) 0 / 256 % 12 = 0 ∧ h9 - bkH (B (R.getD (fiR B M t R i - 1) 0 / 3072)) < 3 then (12, s) else if 2100000000000000 < s + rmV B (R.getD (fiR B M t R i - 1) 0) then (13, s + rmV B (R.getD (fiR B M t R i - 1) 0)) else fcR B M t h9 R u (i + 1) (s + rmV B (R.getD (fiR B M t R i - 1) 0)))
    rw [e1, (ag _ e2).2, rmV_l ag e2, fcR_l ag h0 h M t h9 u]
theorem rmA_m {R : List Nat} {q x : Nat} (h : x ∈ rmA R q) : x ∈ R := by
  by_cases c : 0 < R.length
  · exact rmA_mem c h
  · have e : R = [] := List.length_eq_zero_iff.mp (by omega)
    rw [e] at h
    have := List.length_pos_of_mem h
    rw [rmA_len] at this
    exact absurd this (by decide)
theorem tkR_m {B : Nat → Bk} {M : List Nat} {t : Nat} : ∀ (u i : Nat) (R : List Nat) (x : Nat), x ∈ tkR B M t u i R → x ∈ R
  | 0, _, _, _, h => h
  | u + 1, i, R, x, h => rmA_m (tkR_m u (i + 1) _ x h)
theorem tkR_l {n : Nat} {B B' : Nat → Bk} (ag : agB n B B') (h0 : 0 < n) (M : List Nat) (t : Nat) : ∀ (u i : Nat) (R : List Nat), (∀ x ∈ R, rmK n B x) → tkR B' M t u i R = tkR B M t u i R
  | 0, _, _, _ => rfl
  | u + 1, i, R, h => by
    show tkR B' M t u (i + 1) (rmA R (fiR B' M t R i - 1)) = tkR B M t u (i + 1) (rmA R (fiR B M t R i - 1))
    rw [fiR_l ag h0 h M t i]
    exact tkR_l ag h0 M t u (i + 1) _ (fun x hx => h x (rmA_m hx))
theorem radR_l {n : Nat} {B B' : Nat → Bk} (ag : agB n B B') (hV : blV n B) {b t : Nat} (hb : b < n) (ht : t < mg (bkM (B b)) 80) : ∀ (u o : Nat) (R : List Nat), o + u = (txP (bkM (B b)) t).2.2.1 → (∀ x ∈ R, rmK n B x) → radR B' b t u o R = radR B b t u o R
  | 0, _, _, _, _ => rfl
  | u + 1, o, R, hou, h => by
    have q3 := tx_bd (bk_tx5 (hV b hb).2.1 ht)
    have b9 := blk_b (hV b hb).2.1
    rw [radR_s, radR_s]
    have e : adE B' o (fun j => idB (bkM (B' b)) t j) (mkN b t o) R = adE B o (fun j => idB (bkM (B b)) t j) (mkN b t o) R := by
      unfold adE
      rw [(ag b hb).1, plR_l ag (by omega) h]
    rw [e]
    exact radR_l ag hV hb ht u (o + 1) _ (by omega) (fun x hx => by
      rcases adE_mem hx with hx | hx
      · exact h x hx
      · rw [hx]; exact mkN_K hb ht (by omega) (by omega) (by omega))
theorem ukR_l {n : Nat} {B B' : Nat → Bk} (ag : agB n B B') {Gp : Pt} {M : List Nat} {t i x : Nat} (h : x / 3072 < n) : ukR Gp B' M t i x = ukR Gp B M t i x := by
  unfold ukR lkR
  rw [(ag _ h).1]
theorem rcF_l {n : Nat} {B B' : Nat → Bk} (ag : agB n B B') (hV : blV n B) {Gp : Pt} {ck : Bool} {b h : Nat} (hb : b < n) : ∀ (u t : Nat) (R : List Nat) (left : Nat), t + u = mg (bkM (B b)) 80 → (∀ x ∈ R, rmK n B x) → rcF Gp ck B' (bkM (B b)) b h u t R left = rcF Gp ck B (bkM (B b)) b h u t R left ∧ ∀ x ∈ (rcF Gp ck B (bkM (B b)) b h u t R left).2, rmK n B x
  | 0, t, R, left, _, hR => by
    refine ⟨rfl, fun x hx => hR x ?_⟩
    unfold rcF at hx
    split at hx <;> exact hx
  | u + 1, t, R, left, htu, hR => by
    have h0 : 0 < n := by omega
    unfold rcF
    by_cases c : t = 0
    · rw [if_pos c, if_pos c]
      subst c
      rw [radR_l ag hV hb (t := 0) (by omega) _ 0 R (by omega) hR]
      have hR2 := radR_K hV hb (t := 0) (by omega) (txP (bkM (B b)) 0).2.2.1 0 R (by omega) hR
      split
      · exact ⟨rfl, hR⟩
      · exact rcF_l ag hV hb u 1 _ _ (by omega) hR2
    · rw [if_neg c, if_neg c, fcR_l ag h0 hR]
      by_cases c1 : (fcR B (bkM (B b)) t h R (txP (bkM (B b)) t).1 0 0).1 ≠ 0
      · rw [if_pos c1, if_pos c1]; exact ⟨rfl, hR⟩
      rw [if_neg c1, if_neg c1]
      by_cases c2 : (fcR B (bkM (B b)) t h R (txP (bkM (B b)) t).1 0 0).2 < vaM (bkM (B b)) t
      · rw [if_pos c2, if_pos c2]; exact ⟨rfl, hR⟩
      rw [if_neg c2, if_neg c2]
      have e3 : (∃ i, i < (txP (bkM (B b)) t).1 ∧ ukR Gp B' (bkM (B b)) t i (R.getD (fiR B' (bkM (B b)) t R i - 1) 0) = false) ↔ ∃ i, i < (txP (bkM (B b)) t).1 ∧ ukR Gp B (bkM (B b)) t i (R.getD (fiR B (bkM (B b)) t R i - 1) 0) = false := by
        constructor
        · rintro ⟨i, h1, h2⟩
          rw [fiR_l ag h0 hR, ukR_l ag (getD_bd h0 hR _)] at h2
          exact ⟨i, h1, h2⟩
        · rintro ⟨i, h1, h2⟩
          refine ⟨i, h1, ?_⟩
          rw [fiR_l ag h0 hR, ukR_l ag (getD_bd h0 hR _)]
          exact h2
      by_cases c3 : ck = false ∧ ∃ i, i < (txP (bkM (B b)) t).1 ∧ ukR Gp B (bkM (B b)) t i (R.getD (fiR B (bkM (B b)) t R i - 1) 0) = false
      · rw [if_pos c3, if_pos ⟨c3.1, e3.mpr c3.2⟩]; exact ⟨rfl, hR⟩
      rw [if_neg c3, if_neg (fun x => c3 ⟨x.1, e3.mp x.2⟩), tkR_l ag h0 _ _ _ _ R hR]
      have hR1 : ∀ x ∈ tkR B (bkM (B b)) t (txP (bkM (B b)) t).1 0 R, rmK n B x := fun x hx => hR x (tkR_m _ _ _ x hx)
      rw [radR_l ag hV hb (t := t) (by omega) _ 0 _ (by omega) hR1]
      have hR2 := radR_K hV hb (t := t) (by omega) (txP (bkM (B b)) t).2.2.1 0 _ (by omega) hR1
      split
      · exact ⟨rfl, hR⟩
      · exact rcF_l ag hV hb u (t + 1) _ _ (by omega) hR2
theorem ptF_l {n : Nat} {B B' : Nat → Bk} (ag : agB n B B') (hV : blV n B) {Gp : Pt} : ∀ (l R : List Nat), (∀ b ∈ l, b < n) → (∀ x ∈ R, rmK n B x) → ptF Gp B' l R = ptF Gp B l R ∧ ∀ x ∈ (ptF Gp B l R).2, rmK n B x
  | [], R, _, hR => ⟨rfl, hR⟩
  | b :: l, R, hl, hR => by
    have hb := hl b List.mem_cons_self
    have q := rcF_l ag hV (Gp := Gp) (ck := true) (h := bkH (B b)) hb (mg (bkM (B b)) 80) 0 R 0 (by omega) hR
    unfold ptF
    rw [(ag b hb).1, (ag b hb).2, q.1]
    split
    · exact ptF_l ag hV l _ (fun x hx => hl x (List.mem_cons_of_mem _ hx)) q.2
    · exact ⟨rfl, hR⟩
theorem upL_l {n : Nat} {B B' : Nat → Bk} (hW : chW n B) (e : ∀ i, i < n → bkP (B' i) = bkP (B i)) : ∀ (f k : Nat), k ≤ n → upL B' f k = upL B f k
  | 0, _, _ => rfl
  | f + 1, k, hk => by
    unfold upL
    by_cases c : k = 0
    · rw [if_pos c, if_pos c]
    · rw [if_neg c, if_neg c, e (k - 1) (by omega)]
      rw [upL_l hW e f _ (by have := hW.par (b := k - 1) (by omega); omega)]
theorem upP_mem {n : Nat} {B : Nat → Bk} (hW : chW n B) {i : Nat} (hi : i < n) : ∀ b ∈ upP B i, b < n := fun b hb => upL_mem hW (i + 1) (i + 1) (by omega) b (List.mem_reverse.mp hb)
theorem keR_l {n : Nat} {B B' : Nat → Bk} (ag : agB n B B') {x : Nat} (h : x / 3072 < n) : keR B' x = keR B x := by
  unfold keR
  rw [(ag _ h).1]
theorem kyU_l {n : Nat} {B B' : Nat → Bk} (ag : agB n B B') (h0 : 0 < n) {R : List Nat} (hR : ∀ x ∈ R, rmK n B x) (h : kyU B R) : kyU B' R := fun i j hi hj e => h i j hi hj (by
  rw [keR_l ag (getD_bd h0 hR i), keR_l ag (getD_bd h0 hR j)] at e
  exact e)
theorem cRel_l {n : Nat} {B B' : Nat → Bk} (ag : agB n B B') (h0 : 0 < n) {R X : List Nat} (hR : ∀ x ∈ R, rmK n B x) (h : cRel B R X) : cRel B' R X := ⟨kyU_l ag h0 hR h.1, kyU_l ag h0 (fun x hx => hR x ((h.2.2 x).mpr hx)) h.2.1, h.2.2⟩
/-- a block more, without coins -/
theorem kcI.keep {n : Nat} {B : Nat → Bk} {k : Bk} (h : kcI n B) (hW : chW n B) (hV : blV n B) (h0 : 0 < n) (hk : bkC k = none) : kcI (n + 1) (va_up B n k) := fun i hi c hc => by
  by_cases e : i = n
  · rw [e, va_up_self, hk] at hc
    cases hc
  · rw [va_up_ne _ _ e] at hc
    have hi2 : i < n := by omega
    obtain ⟨R, h1, h2⟩ := h i hi2 c hc
    have ag : agB n B (va_up B n k) := fun j hj => by rw [va_up_ne _ _ (by omega)]; exact ⟨rfl, rfl⟩
    have eP : upP (va_up B n k) i = upP B i := by
      unfold upP
      rw [upL_l hW (fun j hj => by rw [va_up_ne _ _ (by omega)]) (i + 1) (i + 1) (by omega)]
    have q := ptF_l ag hV (Gp := gpG) (upP B i) [] (upP_mem hW hi2) (fun x hx => by cases hx)
    rw [h1] at q
    exact ⟨R, by rw [eP]; exact q.1, cRel_l ag h0 q.2 h2⟩

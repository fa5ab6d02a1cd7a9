/-! WHAT the reference's connecting asks of its rows -/
theorem ks_num_inj {g : Nat → Nat} (hg : kO g) : ∀ (n i j : Nat), ks_num g i n = ks_num g j n → ∀ q, q < n → g (i + q) = g (j + q)
  | 0, i, j, _, q, hq => by omega
  | n + 1, i, j, h, q, hq => by
    have h1 : g i + 256 * ks_num g (i + 1) n = g j + 256 * ks_num g (j + 1) n := h
    have a := hg i
    have b := hg j
    have e1 : g i = g j := by omega
    have e2 : ks_num g (i + 1) n = ks_num g (j + 1) n := by omega
    rcases q with _ | q
    · exact e1
    · have := ks_num_inj hg n (i + 1) (j + 1) e2 q (by omega)
      rw [show i + (q + 1) = i + 1 + q by omega, show j + (q + 1) = j + 1 + q by omega]
      exact this
theorem inD_of {M : List Nat} {h9 : Nat} (hM : kO (mg M)) (h : rtF M h9 = 0) : inD M := fun t h0 ht i j hij hj e => by
  have r := r1F_0 (rtF_0 h).2 t (Nat.zero_le _) (by omega)
  unfold rfM rf_ at r
  rw [show decide (t = 0) = false from decide_eq_false (by omega)] at r
  split at r
  · cases r
  · split at r
    · cases r
    · rw [if_neg (by decide)] at r
      split at r
      · cases r
      · next h2 =>
        refine h2 ⟨j, hj, Or.inr ?_⟩
        have e1 : ks_num (mg M) (inA M t i + 32) 4 = ks_num (mg M) (inA M t j + 32) 4 := congrArg Prod.fst e
        have e2 := sm32_iff.mp (byt32.mpr (show bytL (fun q => mg M (inA M t i + q)) 0 32 = bytL (fun q => mg M (inA M t j + q)) 0 32 from congrArg Prod.snd e))
        unfold dup_b
        rw [List.any_eq_true]
        refine ⟨i, List.mem_range.mpr hij, ?_⟩
        rw [List.all_eq_true]
        intro q hq
        have hq := List.mem_range.mp hq
        rw [beq_iff_eq]
        by_cases c : q < 32
        · have := e2 q c
          simp only [Nat.zero_add] at this
          exact this
        · have := ks_num_inj hM 4 _ _ e1 (q - 32) (by omega)
          rw [show inA M t i + 32 + (q - 32) = inA M t i + q by omega, show inA M t j + 32 + (q - 32) = inA M t j + q by omega] at this
          exact this
/-- of a block the bytes and the height alone -/
def nB (B : Nat → Bk) : Nat → Bk := fun i => (0, bkM (B i), 0, bkH (B i), 0, false, none)
theorem nB_e {B B' : Nat → Bk} (h : ∀ i, bkM (B' i) = bkM (B i) ∧ bkH (B' i) = bkH (B i)) : nB B' = nB B := by
  funext i
  unfold nB
  rw [(h i).1, (h i).2]
theorem keR_n (B : Nat → Bk) : keR B = keR (nB B) := rfl
theorem rmV_n (B : Nat → Bk) : rmV B = rmV (nB B) := rfl
theorem plR_n (B : Nat → Bk) : plR B = plR (nB B) := rfl
theorem fiR_n (B : Nat → Bk) : fiR B = fiR (nB B) := rfl
theorem ukR_n (Gp : Pt) (B : Nat → Bk) : ukR Gp B = ukR Gp (nB B) := rfl
theorem fcR_n (B : Nat → Bk) : fcR B = fcR (nB B) := by
  funext M t h R u
  induction u with
  | zero => rfl
  | succ u ih =>
    funext i s
    unfold fcR
    rw [ih]
    rfl
theorem tkR_n (B : Nat → Bk) : tkR B = tkR (nB B) := by
  funext M t u
  induction u with
  | zero => rfl
  | succ u ih =>
    funext i R
    unfold tkR
    rw [ih]
    rfl
theorem tkK_n (B : Nat → Bk) : tkK B = tkK (nB B) := by
  funext M t u
  induction u with
  | zero => rfl
  | succ u ih =>
    funext i R
    unfold tkK
    rw [ih]
    rfl
theorem radR_n (B : Nat → Bk) : radR B = radR (nB B) := by
  funext b t u
  induction u with
  | zero => rfl
  | succ u ih =>
    funext o R
    unfold radR
    rw [ih]
    rfl
theorem rcF_n (Gp : Pt) (ck : Bool) (B : Nat → Bk) : rcF Gp ck B = rcF Gp ck (nB B) := by
  funext M b h u
  induction u with
  | zero => rfl
  | succ u ih =>
    funext t R left
    unfold rcF
    rw [ih, radR_n B, fcR_n B, tkR_n B]
    rfl
theorem rcF_e {Gp : Pt} {ck : Bool} {B B' : Nat → Bk} (h : ∀ i, bkM (B' i) = bkM (B i) ∧ bkH (B' i) = bkH (B i)) : rcF Gp ck B' = rcF Gp ck B := by
  rw [rcF_n, rcF_n Gp ck B, nB_e h]
theorem cnQ_n {B : Nat → Bk} {b : Nat} {Q : List Nat → Prop} : cnQ B b Q ↔ cnQ (nB B) b Q := by
  unfold cnQ
  rw [rmV_n B, radR_n B, fcR_n B, tkR_n B, tkK_n B]
  exact Iff.rfl
theorem cnQ_e {B B' : Nat → Bk} {b : Nat} {Q : List Nat → Prop} (h : ∀ i, bkM (B' i) = bkM (B i) ∧ bkH (B' i) = bkH (B i)) (k : cnQ B b Q) : cnQ B' b Q := by
  rw [cnQ_n, nB_e h, ← cnQ_n]
  exact k
theorem adE_mem {B : Nat → Bk} {ix : Nat} {id : Nat → Nat} {e x : Nat} {R : List Nat} (h : x ∈ adE B ix id e R) : x ∈ R ∨ x = e := by
  unfold adE at h
  split at h
  · rcases List.mem_append.mp h with h | h
    · exact Or.inl h
    · exact Or.inr (List.mem_singleton.mp h)
  · exact List.mem_or_eq_of_mem_set h
theorem radR_K {n : Nat} {B : Nat → Bk} {b t : Nat} (hV : blV n B) (hb : b < n) (ht : t < mg (bkM (B b)) 80) : ∀ (u o : Nat) (R : List Nat), o + u = (txP (bkM (B b)) t).2.2.1 → (∀ x ∈ R, rmK n B x) → ∀ x ∈ radR B b t u o R, rmK n B x
  | 0, o, R, _, h => h
  | u + 1, o, R, hou, h => by
    rw [radR_s]
    have q3 := tx_bd (bk_tx5 (hV b hb).2.1 ht)
    have b9 := blk_b (hV b hb).2.1
    refine radR_K hV hb ht u (o + 1) _ (by omega) (fun x hx => ?_)
    rcases adE_mem hx with hx | hx
    · exact h x hx
    · rw [hx]; exact mkN_K hb ht (by omega) (by omega) (by omega)
/-- rows that the reference keeps -/
def rwQ (n : Nat) (B : Nat → Bk) (R : List Nat) : Prop := kyU B R ∧ ∀ x ∈ R, rmK n B x
theorem cnQ_of {n : Nat} {B : Nat → Bk} (hV : blV n B) (hv : chV n B) (hd : ∀ b, b < n → inD (bkM (B b))) {b : Nat} (hb : b < n) : cnQ B b (rwQ n B) := by
  have b9 := blk_b (hV b hb).2.1
  refine ⟨fun R hR x hx => ?_, fun R hR _ => ?_, fun t R h0 ht hR _ hf => ?_⟩
  · obtain ⟨k1, k2, k3⟩ := hR.2 x hx
    exact (of_decide_eq_true ((hv _ k1).2.2 _ k2)).1 _ k3
  · have h0 := (hv b hb).2.1
    have q3 := tx_bd (bk_tx5 (hV b hb).2.1 h0)
    exact ⟨hR.1.rad (by decide) _ 0 (by omega), radR_K hV hb h0 _ _ R (by omega) hR.2⟩
  · have q3 := tx_bd (bk_tx5 (hV b hb).2.1 ht)
    have hz := fcR_0 _ _ _ hf
    obtain ⟨a1, a2, a3⟩ := tkR_k (M := bkM (B b)) (t := t) (txP (bkM (B b)) t).1 0 R hR.1 (fun j _ hj => by
      obtain ⟨s1, s2⟩ := fiR_s (hz j (Nat.zero_le _) hj)
      exact ⟨_, getD_mem s1, s2⟩) (fun j k _ h2 h3 => hd b hb t h0 ht j k h2 (by omega))
    exact ⟨a1, a2.rad (by omega) _ 0 (by omega), radR_K hV hb ht _ _ _ (by omega) (fun x hx => hR.2 x ((a3 x).mp hx).1)⟩

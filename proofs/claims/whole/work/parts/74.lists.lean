/-! SIGNATURES AND KEYS AS LISTS -/
def Fl (x : List Nat) : Nat → Nat := fun j => x.getD j 0
theorem Fl_at (g : Nat → Nat) (i c : Nat) {j : Nat} (h : j < c) : Fl (bytL g i c) j = g (i + j) := bytL_at g i c h
theorem derN_c {f h : Nat → Nat} {i j c : Nat} (e : ∀ k, k < 2 + c → f (i + k) = h (j + k)) (hc : 1 ≤ c → f (i + 2) = h (j + 2)) : derN f i c = derN h j c := by
  unfold derN
  have e0 : f i = h j := e 0 (by omega)
  by_cases c1 : 1 ≤ c
  · have e2 := hc c1
    by_cases c2 : c = 1
    · exact decide_eq_decide.mpr (by rw [e0, e2]; constructor <;> intro q <;> omega)
    · have e3 : f (i + 3) = h (j + 3) := e 3 (by omega)
      rw [e0, e2, e3]
  · rw [decide_eq_false (by omega), decide_eq_false (by omega)]
theorem beW_c {f h : Nat → Nat} {i j c : Nat} (e : ∀ k, k < c → f (i + k) = h (j + k)) : beW f i c = beW h j c := by
  unfold beW
  apply dg_congr
  intro k hk
  have := e (c - 1 - k) (by omega)
  rw [show i + c - 1 - k = i + (c - 1 - k) by omega, show j + c - 1 - k = j + (c - 1 - k) by omega]
  exact this
theorem beN_c {f h : Nat → Nat} {i j : Nat} (e : ∀ k, k < 32 → f (i + k) = h (j + k)) : beN f i = beN h j := by
  rw [← beW_32, ← beW_32]
  exact beW_c e
section SgL
variable {g : Nat → Nat} {i c : Nat}
theorem sgF_L : sgF g i c = sgF (Fl (bytL g i c)) 0 c := by
  unfold sgF
  by_cases c9 : 9 ≤ c
  · have e : ∀ j, j < c → Fl (bytL g i c) j = g (i + j) := fun j h => Fl_at g i c h
    have e0 := e 0 (by omega)
    have e1 := e 1 (by omega)
    have e3 := e 3 (by omega)
    rw [show 0 + 1 = 1 from rfl, show 0 + 3 = 3 from rfl, show 0 + 2 = 2 from rfl, show 0 + 5 = 5 from rfl, show 0 + 4 = 4 from rfl, e0, e1, e3, Nat.add_zero]
    generalize hr : g (i + 3) = r
    by_cases c8 : r + 8 ≤ c
    · have e5 := e (5 + r) (by omega)
      rw [e5, show i + (5 + r) = i + 5 + r by omega]
      have d1 : derN (Fl (bytL g i c)) 2 r = derN g (i + 2) r := derN_c (fun k hk => by rw [e (2 + k) (by omega)]; congr 1; omega) (fun _ => by rw [e (2 + 2) (by omega)])
      have d2 : derN (Fl (bytL g i c)) (4 + r) (c - 7 - r) = derN g (i + 4 + r) (c - 7 - r) := derN_c (fun k hk => by rw [e (4 + r + k) (by omega)]; congr 1; omega) (fun _ => by rw [e (4 + r + 2) (by omega)]; congr 1; omega)
      rw [d1, d2]
      rfl
    · rw [decide_eq_false (fun h => c8 h.2.2.2.2.1), decide_eq_false (fun h => c8 h.2.2.2.2.1)]
  · rw [decide_eq_false (fun h => c9 h.1), decide_eq_false (fun h => c9 h.1)]
theorem sgF_b (h : sgF g i c = true) : 9 ≤ c ∧ g (i + 3) + 8 ≤ c := by
  have := of_decide_eq_true h
  exact ⟨this.1, this.2.2.2.2.1⟩
theorem sgr_L (h : sgF g i c = true) : sgr g i = sgr (Fl (bytL g i c)) 0 := by
  have b := sgF_b h
  unfold sgr
  rw [show 0 + 3 = 3 from rfl, Fl_at g i c (by omega)]
  exact beW_c (fun k hk => by rw [Fl_at g i c (by omega)]; congr 1; omega)
theorem sgs_L (h : sgF g i c = true) : sgs g i c = sgs (Fl (bytL g i c)) 0 c := by
  have b := sgF_b h
  unfold sgs
  rw [show 0 + 3 = 3 from rfl, Fl_at g i c (by omega)]
  exact beW_c (fun k hk => by rw [Fl_at g i c (by omega)]; congr 1; omega)
theorem kyW_L : kyW g i c = kyW (Fl (bytL g i c)) 0 c := by
  unfold kyW
  by_cases h : c = 65
  · rw [Fl_at g i c (by omega)]; rfl
  · rw [decide_eq_false (fun q => h q.1), decide_eq_false (fun q => h q.1)]
theorem kyX_L (h : 33 ≤ c) : beN g (i + 1) = beN (Fl (bytL g i c)) 1 := beN_c (fun k hk => by rw [Fl_at g i c (by omega)]; congr 1; omega)
theorem kyY_L (h : 33 ≤ c) : kyY g i c = kyY (Fl (bytL g i c)) 0 c := by
  unfold kyY
  rw [← kyW_L, show 0 + 1 = 1 from rfl, ← kyX_L h, Fl_at g i c (by omega), Nat.add_zero]
  by_cases hw : kyW g i c = true
  · rw [if_pos hw, if_pos hw]
    have := of_decide_eq_true hw
    exact beN_c (fun k hk => by rw [Fl_at g i c (by omega)]; congr 1; omega)
  · rw [if_neg hw, if_neg hw]
    rfl
theorem kyF_b (h : kyF g i c = true) : 33 ≤ c := by
  have := (of_decide_eq_true h).1
  rcases this with q | q
  · have := of_decide_eq_true q; omega
  · omega
theorem kyF_L : kyF g i c = kyF (Fl (bytL g i c)) 0 c := by
  by_cases h : 33 ≤ c
  · unfold kyF
    rw [← kyW_L, ← kyY_L h, show 0 + 1 = 1 from rfl, ← kyX_L h, Fl_at g i c (by omega), Nat.add_zero]
    by_cases hw : kyW g i c = true
    · have hc := of_decide_eq_true hw
      have e : beN (Fl (bytL g i c)) (0 + 33) = beN g (i + 33) := beN_c (fun k hk => by rw [Fl_at g i c (by omega)]; congr 1; omega)
      rw [e]
      rfl
    · exact decide_eq_decide.mpr ⟨fun q => ⟨q.1, q.2.1, fun w => absurd w hw, q.2.2.2⟩, fun q => ⟨q.1, q.2.1, fun w => absurd w hw, q.2.2.2⟩⟩
  · cases e1 : kyF g i c with
    | true => exact absurd (kyF_b e1) h
    | false => cases e2 : kyF (Fl (bytL g i c)) 0 c with
      | true => exact absurd (kyF_b e2) h
      | false => rfl
end SgL
/-- one to fifteen times a key -/
def kyR (x y j : Nat) : Nat := if j = 10 then x else if j = 11 then y else if j = 12 then 1 else 0
def kyT (x y i : Nat) : Pt := mlT (kyR x y) 10 i
/-- a row of multiples, whatever stood there before -/
def kyK (K : Nat → Pt) (x y : Nat) : Prop := K 0 = (x, y, 1) ∧ K 1 = ptD (K 0) ∧ ∀ i, i < 13 → ∃ o, K (i + 2) = ptO (K (i + 1)) (K 0) o
/-- a by b modulo a prime -/
def dvF (p X Y : Nat) : Nat := X * Y ^ (p - 2) % p
/-- the mathematics that signatures rest on -/
def mathOK : Prop := (∀ X Y v, X < nN → Y < nN → dvP nN X Y v → v = dvF nN X Y) ∧ (∀ X Y v, X < pP → Y < pP → dvP pP X Y v → v = dvF pP X Y) ∧ (∀ x, x < pP → rtL (ky3 x) 256 1 ≠ 0) ∧ (∀ K x y, x < pP → y < pP → mM y y = ky3 x → kyK K x y → ∀ i, i < 15 → K i = kyT x y i)
def sgFL (s : List Nat) : Bool := sgF (Fl s) 0 s.length
/-- the sum of u times the base and v times the key -/
def smP (x y u v : Nat) : Pt := (smL baT (kyT x y) u v 64 ((0, 0, 0), false)).1
/-- whether a signature (that is strict DER) is good for a key and a hash -/
def ecG (k s h : List Nat) : Bool := kyF (Fl k) 0 k.length && (inN (sgr (Fl s) 0) && inN (sgs (Fl s) 0 s.length)) && shR (smP (beN (Fl k) 1) (kyY (Fl k) 0 k.length) (dvF nN (beN (Fl h) 0 % nN) (sgs (Fl s) 0 s.length)) (dvF nN (sgr (Fl s) 0) (sgs (Fl s) 0 s.length))) (sgr (Fl s) 0)
/-- signatures against keys: none where a signature is no DER -/
def askS (GD : List Nat → List Nat → Bool) : List (List Nat) → List (List Nat) → Option Bool
  | _, [] => some true
  | [], _ :: _ => some false
  | k :: kr, s :: sr => if kr.length < sr.length then some false else if s = [] then askS GD kr (s :: sr) else if sgFL s = true then (if GD k s = true then askS GD kr sr else askS GD kr (s :: sr)) else none
theorem shR_R {P P' : Pt} (r : Nat) (h : P = P' ∨ (P.2.2 = 0 ∧ P'.2.2 = 0)) : shR P r = shR P' r := by
  rcases h with h | ⟨h1, h2⟩
  · rw [h]
  · unfold shR
    rw [decide_eq_false (fun q => q.1 h1), decide_eq_false (fun q => q.1 h2)]

/-! A DRAFT'S BYTES, READ AGAIN (mathematics) -/
theorem mg_app (A X C : List Nat) {p j : Nat} (hp : p = A.length + j) (hj : j < X.length) : mg (A ++ X ++ C) p = X.getD j 0 := by
  subst hp
  unfold mg
  simp only [List.getD, List.append_assoc]
  rw [List.getElem?_append_right (Nat.le_add_right _ _), Nat.add_sub_cancel_left, List.getElem?_append_left hj]
theorem rc_cnt (A C : List Nat) {n most p q L : Nat} {M : List Nat} (hM : M = A ++ cntL n ++ C) (hp : p = A.length) (hL : L = M.length) (hn : n < 65536) (hm : n ≤ most) (hq : q = p + (cntL n).length) : rc (mg M) p L most = some (n, q) := by
  subst hp
  subst hL
  subst hq
  unfold rc
  by_cases c : n < 253
  · have e : cntL n = [n] := if_pos c
    rw [e] at hM ⊢
    have g0 : mg M A.length = n := by rw [hM]; exact mg_app A [n] C (j := 0) (Nat.add_zero _).symm (by simp)
    rw [g0, if_neg (by rw [hM]; simp), if_pos c, if_pos hm]
    rfl
  · have e : cntL n = [253, n % 256, n / 256 % 256] := if_neg c
    rw [e] at hM ⊢
    have g0 : mg M A.length = 253 := by rw [hM]; exact mg_app A [253, n % 256, n / 256 % 256] C (j := 0) (Nat.add_zero _).symm (by simp)
    have g1 : mg M (A.length + 1) = n % 256 := by rw [hM]; exact mg_app A [253, n % 256, n / 256 % 256] C (j := 1) rfl (by simp)
    have g2 : mg M (A.length + 1 + 1) = n / 256 % 256 := by rw [hM]; exact mg_app A [253, n % 256, n / 256 % 256] C (j := 2) rfl (by simp)
    have e2 : ks_num (mg M) (A.length + 1) 2 = n := by
      unfold ks_num
      unfold ks_num
      unfold ks_num
      rw [g1, g2]
      omega
    rw [g0, e2, if_neg (by rw [hM]; simp), if_neg (by decide), if_pos ⟨rfl, by rw [hM]; simp only [List.length_append, List.length_cons, List.length_nil]; omega, by omega, hm⟩]
    rfl
theorem ip_cat {M : List Nat} (A C : List Nat) : ∀ (zs ys : List dIn), (∀ x ∈ zs, x.1.length = 32 ∧ x.2.2.1.length ≤ 600) → M = A ++ catL inL ys ++ catL inL zs ++ C → ip (mg M) M.length A.length ys.length = some (A ++ catL inL ys).length → ip (mg M) M.length A.length (ys.length + zs.length) = some (A ++ catL inL ys ++ catL inL zs).length
  | [], ys, _, hM, h => by simpa [catL] using h
  | z :: zs, ys, hz, hM, h => by
    obtain ⟨z1, z2⟩ := hz z List.mem_cons_self
    have eM : M = (A ++ catL inL ys ++ z.1 ++ numL z.2.1.toInt64 4) ++ cntL z.2.2.1.length ++ (z.2.2.1 ++ numL z.2.2.2 4 ++ catL inL zs ++ C) := by
      rw [hM]; simp [catL, inL, List.append_assoc]
    have hr := rc_cnt (M := M) (p := (A ++ catL inL ys).length + 36) (q := (A ++ catL inL ys).length + 36 + (cntL z.2.2.1.length).length) (L := M.length) (most := M.length) _ _ eM (by simp only [List.length_append, numL_len, z1]) rfl (by omega) (by rw [eM]; simp only [List.length_append]; omega) rfl
    have h2 := ip_s h hr
    have e3 : catL inL (ys ++ [z]) = catL inL ys ++ inL z := by simp [catL]
    have eyz : (ys ++ [z]).length = ys.length + 1 := by simp
    have h3 := ip_cat (M := M) A C zs (ys ++ [z]) (fun x hx => hz x (List.mem_cons_of_mem _ hx)) (by rw [hM, e3]; simp [catL, List.append_assoc]) (by
      rw [eyz, h2, e3]
      congr 1
      simp only [List.length_append, inL, numL_len, z1]
      omega)
    rw [eyz, e3] at h3
    rw [List.length_cons, show ys.length + (zs.length + 1) = ys.length + 1 + zs.length by omega, h3]
    congr 2
    simp [catL, List.append_assoc]
theorem ot_cat {M : List Nat} (A C : List Nat) : ∀ (zs ys : List dOut), (∀ x ∈ zs, x.2.length ≤ 600) → M = A ++ catL outL ys ++ catL outL zs ++ C → ot (mg M) M.length A.length ys.length = some (A ++ catL outL ys).length → ot (mg M) M.length A.length (ys.length + zs.length) = some (A ++ catL outL ys ++ catL outL zs).length
  | [], ys, _, hM, h => by simpa [catL] using h
  | z :: zs, ys, hz, hM, h => by
    have z2 := hz z List.mem_cons_self
    have eM : M = (A ++ catL outL ys ++ numL z.1 8) ++ cntL z.2.length ++ (z.2 ++ catL outL zs ++ C) := by
      rw [hM]; simp [catL, outL, List.append_assoc]
    have hr := rc_cnt (M := M) (p := (A ++ catL outL ys).length + 8) (q := (A ++ catL outL ys).length + 8 + (cntL z.2.length).length) (L := M.length) (most := M.length) _ _ eM (by simp only [List.length_append, numL_len]) rfl (by omega) (by rw [eM]; simp only [List.length_append]; omega) rfl
    have h2 := ot_s h hr
    have e3 : catL outL (ys ++ [z]) = catL outL ys ++ outL z := by simp [catL]
    have eyz : (ys ++ [z]).length = ys.length + 1 := by simp
    have h3 := ot_cat (M := M) A C zs (ys ++ [z]) (fun x hx => hz x (List.mem_cons_of_mem _ hx)) (by rw [hM, e3]; simp [catL, List.append_assoc]) (by
      rw [eyz, h2, e3]
      congr 1
      simp only [List.length_append, outL, numL_len]
      omega)
    rw [eyz, e3] at h3
    rw [List.length_cons, show ys.length + (zs.length + 1) = ys.length + 1 + zs.length by omega, h3]
    congr 2
    simp [catL, List.append_assoc]
/-- a draft that is within its bounds -/
def dOK (D : dTx) : Prop := (D.2.2.1.length ≤ 6 ∧ ∀ x ∈ D.2.2.1, x.1.length = 32 ∧ x.2.2.1.length ≤ 600) ∧ (D.2.2.2.length ≤ 6 ∧ ∀ x ∈ D.2.2.2, x.2.length ≤ 600)
theorem dx_dOK {S : ks_S} {b : Nat} {D : dTx} (h : dx_ok S b D) : dOK D := by
  obtain ⟨k, m, sz, id, ix, sq, vl, sc, hU, h1, h2⟩ := h
  obtain ⟨-, -, -, -, -, -, -, -, -, -, k6, m6, s1, s2, -⟩ := hU
  refine ⟨⟨by rw [h1]; simpa using k6, fun x hx => ?_⟩, ⟨by rw [h2]; simpa using m6, fun x hx => ?_⟩⟩
  · rw [h1] at hx
    obtain ⟨i, hi, rfl⟩ := List.mem_map.mp hx
    exact ⟨bytL_len _ _ _, by show (bytL (sc i) 0 (sz i)).length ≤ 600; rw [bytL_len]; exact s1 i (List.mem_range.mp hi)⟩
  · rw [h2] at hx
    obtain ⟨i, hi, rfl⟩ := List.mem_map.mp hx
    show (bytL (sc (6 + i)) 0 (sz (6 + i))).length ≤ 600
    rw [bytL_len]
    exact s2 i (List.mem_range.mp hi)
theorem catL_le {α : Type} {f : α → List Nat} {b : Nat} : ∀ {l : List α}, (∀ x ∈ l, (f x).length ≤ b) → (catL f l).length ≤ l.length * b
  | [], _ => by simp [catL]
  | x :: l, h => by
    have h1 := h x List.mem_cons_self
    have h2 := catL_le (f := f) (b := b) (l := l) (fun y hy => h y (List.mem_cons_of_mem _ hy))
    have e : catL f (x :: l) = f x ++ catL f l := by simp [catL]
    rw [e, List.length_append, List.length_cons, Nat.succ_mul]
    omega
/-- where a draft's parts lie in its bytes -/
def dPos (D : dTx) : Nat × Nat × Nat × Nat × Nat := (D.2.2.1.length, 5, D.2.2.2.length, 5 + (catL inL D.2.2.1).length + 1, (txL D).length)
theorem tx_draft {D : dTx} (h : dOK D) : tx_ (mg (txL D)) 0 (txL D).length = some (dPos D) ∧ (txL D).length ≤ 5 + (catL inL D.2.2.1).length + 1 + 4000 ∧ (txL D).length ≤ 8000 := by
  obtain ⟨⟨a1, a2⟩, b1, b2⟩ := h
  obtain ⟨ve, lo, xs, ys⟩ := D
  have c1 : cntL xs.length = [xs.length] := if_pos (by show xs.length < 253; have : xs.length ≤ 6 := a1; omega)
  have c2 : cntL ys.length = [ys.length] := if_pos (by show ys.length < 253; have : ys.length ≤ 6 := b1; omega)
  have a1 : xs.length ≤ 6 := a1
  have b1 : ys.length ≤ 6 := b1
  have la : (catL inL xs).length ≤ xs.length * 643 := catL_le (fun x hx => by
    have := a2 x hx
    have := cntL_le x.2.2.1.length
    simp only [inL, List.length_append, numL_len]; omega)
  have lb : (catL outL ys).length ≤ ys.length * 611 := catL_le (fun x hx => by
    have := b2 x hx
    have := cntL_le x.2.length
    simp only [outL, List.length_append, numL_len]; omega)
  have eL : (txL (ve, lo, xs, ys)).length = 10 + (catL inL xs).length + (catL outL ys).length := by
    unfold txL
    simp only [List.length_append, numL_len, c1, c2, List.length_singleton]
    omega
  obtain ⟨M, hM⟩ : ∃ M, txL (ve, lo, xs, ys) = M := ⟨_, rfl⟩
  have e0 : M = numL ve 4 ++ cntL xs.length ++ (catL inL xs ++ cntL ys.length ++ catL outL ys ++ numL lo 4) := by rw [← hM]; simp [txL, List.append_assoc]
  have e1 : M = (numL ve 4 ++ cntL xs.length) ++ catL inL [] ++ catL inL xs ++ (cntL ys.length ++ catL outL ys ++ numL lo 4) := by rw [← hM]; simp [txL, catL, List.append_assoc]
  have e2 : M = (numL ve 4 ++ cntL xs.length ++ catL inL xs) ++ cntL ys.length ++ (catL outL ys ++ numL lo 4) := by rw [← hM]; simp [txL, List.append_assoc]
  have e3 : M = (numL ve 4 ++ cntL xs.length ++ catL inL xs ++ cntL ys.length) ++ catL outL [] ++ catL outL ys ++ numL lo 4 := by rw [← hM]; simp [txL, catL, List.append_assoc]
  rw [hM] at eL
  have r1 := rc_cnt (M := M) (p := 0 + 4) (q := 5) (L := M.length) (most := 40) _ _ e0 (by rw [numL_len]) rfl (by omega) (by omega) (by rw [c1]; rfl)
  have r2 := ip_cat (M := M) _ _ xs [] a2 e1 (by simp [ip, catL])
  have l5 : (numL ve 4 ++ cntL xs.length).length = 5 := by rw [c1]; simp [numL_len]
  rw [l5, List.length_nil, Nat.zero_add] at r2
  have l6 : (numL ve 4 ++ cntL xs.length ++ catL inL [] ++ catL inL xs).length = 5 + (catL inL xs).length := by
    rw [List.length_append, List.length_append, l5]; simp [catL]
  rw [l6] at r2
  have r3 := rc_cnt (M := M) (p := 5 + (catL inL xs).length) (q := 5 + (catL inL xs).length + 1) (L := M.length) (most := 180) _ _ e2 (by rw [List.length_append, l5]) rfl (by omega) (by omega) (by rw [c2]; rfl)
  have r4 := ot_cat (M := M) _ _ ys [] b2 e3 (by simp [ot, catL])
  have l7 : (numL ve 4 ++ cntL xs.length ++ catL inL xs ++ cntL ys.length).length = 5 + (catL inL xs).length + 1 := by rw [List.length_append, List.length_append, l5, c2]; rfl
  rw [l7, List.length_nil, Nat.zero_add] at r4
  have l8 : (numL ve 4 ++ cntL xs.length ++ catL inL xs ++ cntL ys.length ++ catL outL [] ++ catL outL ys).length = 5 + (catL inL xs).length + 1 + (catL outL ys).length := by
    rw [List.length_append, List.length_append, l7]; simp [catL]
  rw [l8] at r4
  refine ⟨?_, ?_, ?_⟩
  · rw [hM]
    unfold tx_
    rw [r1]
    show (match ip (mg M) M.length 5 xs.length with | none => none | some q => match rc (mg M) q M.length 180 with | none => none | some (m, u) => match ot (mg M) M.length u m with | none => none | some e => if e + 4 ≤ M.length then some (xs.length, 5, m, u, e + 4) else none) = _
    rw [r2]
    show (match rc (mg M) (5 + (catL inL xs).length) M.length 180 with | none => none | some (m, u) => match ot (mg M) M.length u m with | none => none | some e => if e + 4 ≤ M.length then some (xs.length, 5, m, u, e + 4) else none) = _
    rw [r3]
    show (match ot (mg M) M.length (5 + (catL inL xs).length + 1) ys.length with | none => none | some e => if e + 4 ≤ M.length then some (xs.length, 5, ys.length, 5 + (catL inL xs).length + 1, e + 4) else none) = _
    rw [r4]
    show (if 5 + (catL inL xs).length + 1 + (catL outL ys).length + 4 ≤ M.length then some (xs.length, 5, ys.length, 5 + (catL inL xs).length + 1, 5 + (catL inL xs).length + 1 + (catL outL ys).length + 4) else none) = some (xs.length, 5, ys.length, 5 + (catL inL xs).length + 1, (txL (ve, lo, xs, ys)).length)
    rw [if_pos (by omega), hM, eL]
    congr 5
    omega
  · rw [hM, eL]
    show 10 + (catL inL xs).length + (catL outL ys).length ≤ 5 + (catL inL xs).length + 1 + 4000
    omega
  · rw [hM, eL]; omega

/-! MACHINE: numbers -/
def numI (v : Int) : List Nat := numS (decide (v < 0)) v.natAbs
theorem numZ_I (v : Int) : numZ (decide (v < 0)) v.natAbs = iL v := by
  unfold numZ
  by_cases h : v < 0
  · rw [decide_eq_true h, if_pos rfl, lN_iL, iL_neg]
    congr 1
    omega
  · rw [decide_eq_false h, if_neg (by decide), lN_iL]
    congr 1
    omega
theorem tg_len_lt {x : Nat} : ∀ {n k : Nat}, x < 256 ^ k → tg_len x n ≤ k
  | 0, k, h => Nat.zero_le _
  | n + 1, k, h => by
    unfold tg_len
    split
    · exact tg_len_lt h
    · next c =>
      apply Nat.le_of_not_lt
      intro h2
      exact c (Nat.lt_of_lt_of_le h (Nat.pow_le_pow_right (by decide) (by omega)))
theorem nsN_le {x k : Nat} (h : x < 256 ^ k) : nsN x ≤ k + 1 := by
  unfold nsN
  have := tg_len_lt (n := 8) h
  split <;> omega
theorem nsN_small {x : Nat} (h : x < 128) : nsN x ≤ 1 := by
  have h1 : tg_len x 8 ≤ 1 := tg_len_lt (k := 1) (by omega)
  unfold nsN
  split
  · next c =>
    have : tg_len x 8 = 1 := by omega
    rw [this] at c
    simp at c
    omega
  · exact h1
theorem numS_len (b : Bool) (x : Nat) : (numS b x).length = nsN x := by simp [numS]
theorem c_st_addI {l : Launch} {G : ks_G} {d : Nat} {S : ks_S} {xs ys : List (List Nat)} {u : Nat} {v : Int} (hO : st_ok S xs ys u) (hx48 : v.natAbs < 2 ^ 48) (hl : xs.length < 1004) (hu : u + nsN v.natAbs ≤ 24096) : ks_P l G yX8_addNumber mX8_addNumber (d + 2) [.ref 29, .long (iL v)] S (fun z S' => z = some (.int (ks_bo true)) ∧ stU S S' u ∧ st_ok S' (numI v :: xs) ys (u + nsN v.natAbs)) := by
  have h := c_st_addNumber (l := l) (G := G) (d := d) (x := v.natAbs) (neg := decide (v < 0)) hO hx48 (fun h => by have := of_decide_eq_true h; omega) hl hu
  rw [numZ_I, numS_len] at h
  exact h
theorem iL_add (a b : Int) : iL a + iL b = iL (a + b) := (Int64.ofInt_add a b).symm
theorem iL_sub (a b : Int) : iL a - iL b = iL (a - b) := (Int64.ofInt_sub a b).symm
theorem iL_lt {a b : Int} (h1 : -(2 ^ 40) ≤ a) (h2 : a < 2 ^ 40) (h3 : -(2 ^ 40) ≤ b) (h4 : b < 2 ^ 40) : iL a < iL b ↔ a < b := by
  rw [Int64.lt_iff_toInt_lt, iL_T (by omega) (by omega), iL_T (by omega) (by omega)]
theorem iL_le {a b : Int} (h1 : -(2 ^ 40) ≤ a) (h2 : a < 2 ^ 40) (h3 : -(2 ^ 40) ≤ b) (h4 : b < 2 ^ 40) : iL a ≤ iL b ↔ a ≤ b := by
  rw [Int64.le_iff_toInt_le, iL_T (by omega) (by omega), iL_T (by omega) (by omega)]
theorem iL_eq {a b : Int} (h1 : -(2 ^ 40) ≤ a) (h2 : a < 2 ^ 40) (h3 : -(2 ^ 40) ≤ b) (h4 : b < 2 ^ 40) : iL a = iL b ↔ a = b := by
  constructor
  · intro h
    have := congrArg Int64.toInt h
    rwa [iL_T (by omega) (by omega), iL_T (by omega) (by omega)] at this
  · rintro rfl; rfl
theorem numV_b {x : List Nat} {k : Nat} (hb : ∀ b ∈ x, b < 256) (hk : x.length ≤ k) : (numV x).natAbs < 2 ^ (8 * k) / 2 + 1 ∧ (0 < k → (numV x).natAbs < 2 ^ (8 * k - 1)) := by
  have h := leV_lt hb
  have hm : x.length = 0 ∨ 0 < x.length := by omega
  have key : (numV x).natAbs < 2 ^ (8 * x.length - 1) := by
    rcases hm with hm | hm
    · have e : x = [] := List.eq_nil_of_length_eq_zero hm
      subst e
      decide
    · have e : 256 ^ x.length = 2 ^ (8 * x.length - 1) * 2 := by rw [← Nat.pow_succ, show (256 : Nat) = 2 ^ 8 from rfl, ← Nat.pow_mul]; congr 1; omega
      rw [e] at h
      have hp : 0 < 2 ^ (8 * x.length - 1) := Nat.two_pow_pos _
      unfold numV
      split <;> omega
  refine ⟨?_, fun h0 => Nat.lt_of_lt_of_le key (Nat.pow_le_pow_right (by decide) (by omega))⟩
  have h2 : 2 ^ (8 * x.length - 1) ≤ 2 ^ (8 * k) / 2 + 1 := by
    rcases Nat.eq_zero_or_pos k with e | e
    · subst e
      have : x.length = 0 := by omega
      rw [this]; decide
    · have : 2 ^ (8 * k) = 2 ^ (8 * k - 1) * 2 := by rw [← Nat.pow_succ]; congr 1; omega
      rw [this, Nat.mul_div_cancel _ (by decide)]
      exact Nat.le_trans (Nat.pow_le_pow_right (by decide) (by omega)) (Nat.le_succ _)
  omega
theorem st_ok.byte {S : ks_S} {xs ys : List (List Nat)} {u : Nat} (h : st_ok S xs ys u) {k : Nat} (hk : k < xs.length) : ∀ b ∈ xs.getD k [], b < 256 := by
  obtain ⟨ar, fa, fc, h1, h2, h3, h4, h5⟩ := h.rows
  rw [(h5 k hk).1]
  exact bytL_b h4 _ _
theorem num4 {S : ks_S} {xs ys : List (List Nat)} {u : Nat} (h : st_ok S xs ys u) {k : Nat} (hk : k < xs.length) (h4 : (xs.getD k []).length ≤ 4) : -(2 ^ 31) < numV (xs.getD k []) ∧ numV (xs.getD k []) < 2 ^ 31 := by
  have := (numV_b (h.byte hk) h4).2 (by decide)
  omega
/-- one number -/
def rk1 (op : Nat) (a : Int) : Int := if op = 139 then a + 1 else if op = 140 then a - 1 else if op = 143 then -a else if op = 144 then (if a < 0 then -a else a) else if op = 145 then (if a = 0 then 1 else 0) else (if a = 0 then 0 else 1)
def rk2 (op : Nat) (a b : Int) : Int := if op = 147 then a + b else if op = 148 then a - b else if op = 163 then (if a < b then a else b) else (if b < a then a else b)
def rkH (op : Nat) (a b : Int) : Bool := if op = 154 then decide (a ≠ 0 ∧ b ≠ 0) else if op = 155 then decide (a ≠ 0 ∨ b ≠ 0) else if op = 156 ∨ op = 157 then decide (a = b) else if op = 158 then decide (a ≠ b) else if op = 159 then decide (a < b) else if op = 160 then decide (b < a) else if op = 161 then decide (a ≤ b) else decide (b ≤ a)
set_option maxRecDepth 100000 in
set_option maxHeartbeats 2000000 in
theorem c_mc_ofOne {l : Launch} {G : ks_G} {d : Nat} {S : ks_S} {op : Nat} (hop : op < 256) {a : Int} (ha : -(2 ^ 31) < a) (ha2 : a < 2 ^ 31) : ks_P l G yX7_ofOne mX7_ofOne d [.int (nI op), .long (iL a)] S (fun z S' => z = some (.long (iL (rk1 op a))) ∧ S' = S) := by
  refine ks_of (by decide) rfl rfl (Nat.le_of_ble_eq_true rfl) ?_
  show ks_X l G mX7_ofOne d 0 [(0, .int (nI op)), (1, .long (iL a))] [] S _
  have n6 := @iL_eq a 0 (by omega) (by omega) (by omega) (by omega)
  have n8 := @iL_lt a 0 (by omega) (by omega) (by omega) (by omega)
  have n9 := @iL_le 0 a (by omega) (by omega) (by omega) (by omega)
  have z0 : (lN 0 : Int64) = iL 0 := rfl
  have z1 : (lN 1 : Int64) = iL 1 := rfl
  refine ks_iload_n dX7_ofOne_0 rfl rfl ?_
  have hsw : op = 139 ∨ op = 140 ∨ op = 141 ∨ op = 142 ∨ op = 143 ∨ op = 144 ∨ op = 145 ∨ ((op < 139 ∨ 145 < op)) := by omega
  rcases hsw with rfl | rfl | rfl | rfl | rfl | rfl | rfl | hsw
  · refine ks_tableIn (off := 43) (tgt := 44) dX7_ofOne_1 (by decide) (by decide) (by decide) (by decide) ?_
    refine ks_lload_n dX7_ofOne_44 rfl rfl ?_
    refine ks_lconst (x := lN 1) dX7_ofOne_45 (by decide) rfl ?_
    refine ks_ladd dX7_ofOne_46 rfl ?_
    refine ks_lret rfl dX7_ofOne_47 ?_
    refine ⟨?_, rfl⟩
    apply congrArg some
    apply congrArg Value.long
    unfold rk1
    try simp (config := { decide := true }) only [if_true, if_false]
    try simp only [iL_neg]
    try skip
    all_goals first | exact iL_add a 1 | exact iL_sub a 1 | rfl | (rw [if_pos (by omega)]; done) | (rw [if_neg (by omega)]; done) | (rw [if_pos (by omega)]; rfl) | (rw [if_neg (by omega)]; rfl)
  · refine ks_tableIn (off := 47) (tgt := 48) dX7_ofOne_1 (by decide) (by decide) (by decide) (by decide) ?_
    refine ks_lload_n dX7_ofOne_48 rfl rfl ?_
    refine ks_lconst (x := lN 1) dX7_ofOne_49 (by decide) rfl ?_
    refine ks_lsub dX7_ofOne_50 rfl ?_
    refine ks_lret rfl dX7_ofOne_51 ?_
    refine ⟨?_, rfl⟩
    apply congrArg some
    apply congrArg Value.long
    unfold rk1
    try simp (config := { decide := true }) only [if_true, if_false]
    try simp only [iL_neg]
    try skip
    all_goals first | exact iL_add a 1 | exact iL_sub a 1 | rfl | (rw [if_pos (by omega)]; done) | (rw [if_neg (by omega)]; done) | (rw [if_pos (by omega)]; rfl) | (rw [if_neg (by omega)]; rfl)
  · refine ks_tableIn (off := 79) (tgt := 80) dX7_ofOne_1 (by decide) (by decide) (by decide) (by decide) ?_
    refine ks_lload_n dX7_ofOne_80 rfl rfl ?_
    refine ks_lconst (x := lN 0) dX7_ofOne_81 (by decide) rfl ?_
    refine ks_lif_eq (tgt := 90) dX7_ofOne_82 rfl dX7_ofOne_83 (by decide) rfl (fun hz => ?_) (fun hz => ?_)
    · refine ks_lconst (x := lN 0) dX7_ofOne_90 (by decide) rfl ?_
      refine ks_lret rfl dX7_ofOne_91 ?_
      refine ⟨?_, rfl⟩
      apply congrArg some
      apply congrArg Value.long
      unfold rk1
      first | rw [z0, n6] at hz | rw [z0, n8] at hz | rw [z0, n9] at hz
      try simp (config := { decide := true }) only [if_true, if_false]
      try simp only [iL_neg]
      try (rw [if_neg (by omega), if_neg (by omega), if_neg (by omega), if_neg (by omega), if_neg (by omega)])
      all_goals first | exact iL_add a 1 | exact iL_sub a 1 | rfl | (rw [if_pos (by omega)]; done) | (rw [if_neg (by omega)]; done) | (rw [if_pos (by omega)]; rfl) | (rw [if_neg (by omega)]; rfl)
    · refine ks_lconst (x := lN 1) dX7_ofOne_86 (by decide) rfl ?_
      refine ks_goto (tgt := 91) dX7_ofOne_87 (by decide) ?_
      refine ks_lret rfl dX7_ofOne_91 ?_
      refine ⟨?_, rfl⟩
      apply congrArg some
      apply congrArg Value.long
      unfold rk1
      first | rw [z0, n6] at hz | rw [z0, n8] at hz | rw [z0, n9] at hz
      try simp (config := { decide := true }) only [if_true, if_false]
      try simp only [iL_neg]
      try (rw [if_neg (by omega), if_neg (by omega), if_neg (by omega), if_neg (by omega), if_neg (by omega)])
      all_goals first | exact iL_add a 1 | exact iL_sub a 1 | rfl | (rw [if_pos (by omega)]; done) | (rw [if_neg (by omega)]; done) | (rw [if_pos (by omega)]; rfl) | (rw [if_neg (by omega)]; rfl)
  · refine ks_tableIn (off := 79) (tgt := 80) dX7_ofOne_1 (by decide) (by decide) (by decide) (by decide) ?_
    refine ks_lload_n dX7_ofOne_80 rfl rfl ?_
    refine ks_lconst (x := lN 0) dX7_ofOne_81 (by decide) rfl ?_
    refine ks_lif_eq (tgt := 90) dX7_ofOne_82 rfl dX7_ofOne_83 (by decide) rfl (fun hz => ?_) (fun hz => ?_)
    · refine ks_lconst (x := lN 0) dX7_ofOne_90 (by decide) rfl ?_
      refine ks_lret rfl dX7_ofOne_91 ?_
      refine ⟨?_, rfl⟩
      apply congrArg some
      apply congrArg Value.long
      unfold rk1
      first | rw [z0, n6] at hz | rw [z0, n8] at hz | rw [z0, n9] at hz
      try simp (config := { decide := true }) only [if_true, if_false]
      try simp only [iL_neg]
      try (rw [if_neg (by omega), if_neg (by omega), if_neg (by omega), if_neg (by omega), if_neg (by omega)])
      all_goals first | exact iL_add a 1 | exact iL_sub a 1 | rfl | (rw [if_pos (by omega)]; done) | (rw [if_neg (by omega)]; done) | (rw [if_pos (by omega)]; rfl) | (rw [if_neg (by omega)]; rfl)
    · refine ks_lconst (x := lN 1) dX7_ofOne_86 (by decide) rfl ?_
      refine ks_goto (tgt := 91) dX7_ofOne_87 (by decide) ?_
      refine ks_lret rfl dX7_ofOne_91 ?_
      refine ⟨?_, rfl⟩
      apply congrArg some
      apply congrArg Value.long
      unfold rk1
      first | rw [z0, n6] at hz | rw [z0, n8] at hz | rw [z0, n9] at hz
      try simp (config := { decide := true }) only [if_true, if_false]
      try simp only [iL_neg]
      try (rw [if_neg (by omega), if_neg (by omega), if_neg (by omega), if_neg (by omega), if_neg (by omega)])
      all_goals first | exact iL_add a 1 | exact iL_sub a 1 | rfl | (rw [if_pos (by omega)]; done) | (rw [if_neg (by omega)]; done) | (rw [if_pos (by omega)]; rfl) | (rw [if_neg (by omega)]; rfl)
  · refine ks_tableIn (off := 51) (tgt := 52) dX7_ofOne_1 (by decide) (by decide) (by decide) (by decide) ?_
    refine ks_lload_n dX7_ofOne_52 rfl rfl ?_
    refine ks_lneg dX7_ofOne_53 rfl ?_
    refine ks_lret rfl dX7_ofOne_54 ?_
    refine ⟨?_, rfl⟩
    apply congrArg some
    apply congrArg Value.long
    unfold rk1
    try simp (config := { decide := true }) only [if_true, if_false]
    try simp only [iL_neg]
    try skip
    all_goals first | exact iL_add a 1 | exact iL_sub a 1 | rfl | (rw [if_pos (by omega)]; done) | (rw [if_neg (by omega)]; done) | (rw [if_pos (by omega)]; rfl) | (rw [if_neg (by omega)]; rfl)
  · refine ks_tableIn (off := 54) (tgt := 55) dX7_ofOne_1 (by decide) (by decide) (by decide) (by decide) ?_
    refine ks_lload_n dX7_ofOne_55 rfl rfl ?_
    refine ks_lconst (x := lN 0) dX7_ofOne_56 (by decide) rfl ?_
    refine ks_lif_ge (tgt := 66) dX7_ofOne_57 rfl dX7_ofOne_58 (by decide) rfl (fun hz => ?_) (fun hz => ?_)
    · refine ks_lload_n dX7_ofOne_66 rfl rfl ?_
      refine ks_lret rfl dX7_ofOne_67 ?_
      refine ⟨?_, rfl⟩
      apply congrArg some
      apply congrArg Value.long
      unfold rk1
      first | rw [z0, n6] at hz | rw [z0, n8] at hz | rw [z0, n9] at hz
      try simp (config := { decide := true }) only [if_true, if_false]
      try simp only [iL_neg]
      try skip
      all_goals first | exact iL_add a 1 | exact iL_sub a 1 | rfl | (rw [if_pos (by omega)]; done) | (rw [if_neg (by omega)]; done) | (rw [if_pos (by omega)]; rfl) | (rw [if_neg (by omega)]; rfl)
    · refine ks_lload_n dX7_ofOne_61 rfl rfl ?_
      refine ks_lneg dX7_ofOne_62 rfl ?_
      refine ks_goto (tgt := 67) dX7_ofOne_63 (by decide) ?_
      refine ks_lret rfl dX7_ofOne_67 ?_
      refine ⟨?_, rfl⟩
      apply congrArg some
      apply congrArg Value.long
      unfold rk1
      first | rw [z0, n6] at hz | rw [z0, n8] at hz | rw [z0, n9] at hz
      try simp (config := { decide := true }) only [if_true, if_false]
      try simp only [iL_neg]
      try skip
      all_goals first | exact iL_add a 1 | exact iL_sub a 1 | rfl | (rw [if_pos (by omega)]; done) | (rw [if_neg (by omega)]; done) | (rw [if_pos (by omega)]; rfl) | (rw [if_neg (by omega)]; rfl)
  · refine ks_tableIn (off := 67) (tgt := 68) dX7_ofOne_1 (by decide) (by decide) (by decide) (by decide) ?_
    refine ks_lload_n dX7_ofOne_68 rfl rfl ?_
    refine ks_lconst (x := lN 0) dX7_ofOne_69 (by decide) rfl ?_
    refine ks_lif_ne (tgt := 78) dX7_ofOne_70 rfl dX7_ofOne_71 (by decide) rfl (fun hz => ?_) (fun hz => ?_)
    · refine ks_lconst (x := lN 0) dX7_ofOne_78 (by decide) rfl ?_
      refine ks_lret rfl dX7_ofOne_79 ?_
      refine ⟨?_, rfl⟩
      apply congrArg some
      apply congrArg Value.long
      unfold rk1
      first | rw [z0, n6] at hz | rw [z0, n8] at hz | rw [z0, n9] at hz
      try simp (config := { decide := true }) only [if_true, if_false]
      try simp only [iL_neg]
      try skip
      all_goals first | exact iL_add a 1 | exact iL_sub a 1 | rfl | (rw [if_pos (by omega)]; done) | (rw [if_neg (by omega)]; done) | (rw [if_pos (by omega)]; rfl) | (rw [if_neg (by omega)]; rfl)
    · refine ks_lconst (x := lN 1) dX7_ofOne_74 (by decide) rfl ?_
      refine ks_goto (tgt := 79) dX7_ofOne_75 (by decide) ?_
      refine ks_lret rfl dX7_ofOne_79 ?_
      refine ⟨?_, rfl⟩
      apply congrArg some
      apply congrArg Value.long
      unfold rk1
      first | rw [z0, n6] at hz | rw [z0, n8] at hz | rw [z0, n9] at hz
      try simp (config := { decide := true }) only [if_true, if_false]
      try simp only [iL_neg]
      try skip
      all_goals first | exact iL_add a 1 | exact iL_sub a 1 | rfl | (rw [if_pos (by omega)]; done) | (rw [if_neg (by omega)]; done) | (rw [if_pos (by omega)]; rfl) | (rw [if_neg (by omega)]; rfl)
  · refine ks_tableOut (tgt := 80) dX7_ofOne_1 ((show ∀ q, q < 256 → (q < 139 ∨ 145 < q) → ((nI q).toInt < 139 ∨ 145 < (nI q).toInt) by decide +kernel) _ hop hsw) (by decide) ?_
    refine ks_lload_n dX7_ofOne_80 rfl rfl ?_
    refine ks_lconst (x := lN 0) dX7_ofOne_81 (by decide) rfl ?_
    refine ks_lif_eq (tgt := 90) dX7_ofOne_82 rfl dX7_ofOne_83 (by decide) rfl (fun hz => ?_) (fun hz => ?_)
    · refine ks_lconst (x := lN 0) dX7_ofOne_90 (by decide) rfl ?_
      refine ks_lret rfl dX7_ofOne_91 ?_
      refine ⟨?_, rfl⟩
      apply congrArg some
      apply congrArg Value.long
      unfold rk1
      first | rw [z0, n6] at hz | rw [z0, n8] at hz | rw [z0, n9] at hz
      try simp (config := { decide := true }) only [if_true, if_false]
      try simp only [iL_neg]
      try (rw [if_neg (by omega), if_neg (by omega), if_neg (by omega), if_neg (by omega), if_neg (by omega)])
      all_goals first | exact iL_add a 1 | exact iL_sub a 1 | rfl | (rw [if_pos (by omega)]; done) | (rw [if_neg (by omega)]; done) | (rw [if_pos (by omega)]; rfl) | (rw [if_neg (by omega)]; rfl)
    · refine ks_lconst (x := lN 1) dX7_ofOne_86 (by decide) rfl ?_
      refine ks_goto (tgt := 91) dX7_ofOne_87 (by decide) ?_
      refine ks_lret rfl dX7_ofOne_91 ?_
      refine ⟨?_, rfl⟩
      apply congrArg some
      apply congrArg Value.long
      unfold rk1
      first | rw [z0, n6] at hz | rw [z0, n8] at hz | rw [z0, n9] at hz
      try simp (config := { decide := true }) only [if_true, if_false]
      try simp only [iL_neg]
      try (rw [if_neg (by omega), if_neg (by omega), if_neg (by omega), if_neg (by omega), if_neg (by omega)])
      all_goals first | exact iL_add a 1 | exact iL_sub a 1 | rfl | (rw [if_pos (by omega)]; done) | (rw [if_neg (by omega)]; done) | (rw [if_pos (by omega)]; rfl) | (rw [if_neg (by omega)]; rfl)
set_option maxRecDepth 100000 in
set_option maxHeartbeats 2000000 in
theorem c_mc_ofTwo {l : Launch} {G : ks_G} {d : Nat} {S : ks_S} {op : Nat} (hop : op < 256) {a b : Int} (ha : -(2 ^ 31) < a) (ha2 : a < 2 ^ 31) (hb : -(2 ^ 31) < b) (hb2 : b < 2 ^ 31) : ks_P l G yX7_ofTwo mX7_ofTwo d [.int (nI op), .long (iL a), .long (iL b)] S (fun z S' => z = some (.long (iL (rk2 op a b))) ∧ S' = S) := by
  refine ks_of (by decide) rfl rfl (Nat.le_of_ble_eq_true rfl) ?_
  show ks_X l G mX7_ofTwo d 0 [(0, .int (nI op)), (1, .long (iL a)), (3, .long (iL b))] [] S _
  have n1 := @iL_lt a b (by omega) (by omega) (by omega) (by omega)
  have n2 := @iL_lt b a (by omega) (by omega) (by omega) (by omega)
  have n3 := @iL_le a b (by omega) (by omega) (by omega) (by omega)
  have n4 := @iL_le b a (by omega) (by omega) (by omega) (by omega)
  refine ks_iload_n dX7_ofTwo_0 rfl rfl ?_
  have hsw : op = 147 ∨ op = 148 ∨ op = 163 ∨ (¬ op = 147 ∧ ¬ op = 148 ∧ ¬ op = 163) := by omega
  rcases hsw with rfl | rfl | rfl | hsw
  · refine ks_lookup (off := 35) (tgt := 36) dX7_ofTwo_1 (by decide) (by decide) (by decide) ?_
    refine ks_lload_n dX7_ofTwo_36 rfl rfl ?_
    refine ks_lload_n dX7_ofTwo_37 rfl rfl ?_
    refine ks_ladd dX7_ofTwo_38 rfl ?_
    refine ks_lret rfl dX7_ofTwo_39 ?_
    refine ⟨?_, rfl⟩
    apply congrArg some
    apply congrArg Value.long
    unfold rk2
    try simp (config := { decide := true }) only [if_true, if_false]
    first | exact iL_add _ _ | exact iL_sub _ _ | (rw [if_pos (by omega)]) | (rw [if_neg (by omega)])
  · refine ks_lookup (off := 39) (tgt := 40) dX7_ofTwo_1 (by decide) (by decide) (by decide) ?_
    refine ks_lload_n dX7_ofTwo_40 rfl rfl ?_
    refine ks_lload_n dX7_ofTwo_41 rfl rfl ?_
    refine ks_lsub dX7_ofTwo_42 rfl ?_
    refine ks_lret rfl dX7_ofTwo_43 ?_
    refine ⟨?_, rfl⟩
    apply congrArg some
    apply congrArg Value.long
    unfold rk2
    try simp (config := { decide := true }) only [if_true, if_false]
    first | exact iL_add _ _ | exact iL_sub _ _ | (rw [if_pos (by omega)]) | (rw [if_neg (by omega)])
  · refine ks_lookup (off := 43) (tgt := 44) dX7_ofTwo_1 (by decide) (by decide) (by decide) ?_
    refine ks_lload_n dX7_ofTwo_44 rfl rfl ?_
    refine ks_lload_n dX7_ofTwo_45 rfl rfl ?_
    refine ks_lif_ge (tgt := 54) dX7_ofTwo_46 rfl dX7_ofTwo_47 (by decide) rfl (fun hz => ?_) (fun hz => ?_)
    · refine ks_lload_n dX7_ofTwo_54 rfl rfl ?_
      refine ks_lret rfl dX7_ofTwo_55 ?_
      refine ⟨?_, rfl⟩
      apply congrArg some
      apply congrArg Value.long
      unfold rk2
      first | rw [n1] at hz | rw [n2] at hz | rw [n3] at hz | rw [n4] at hz
      try simp (config := { decide := true }) only [if_true, if_false]
      first | exact iL_add _ _ | exact iL_sub _ _ | (rw [if_pos (by omega)]) | (rw [if_neg (by omega)])
    · refine ks_lload_n dX7_ofTwo_50 rfl rfl ?_
      refine ks_goto (tgt := 55) dX7_ofTwo_51 (by decide) ?_
      refine ks_lret rfl dX7_ofTwo_55 ?_
      refine ⟨?_, rfl⟩
      apply congrArg some
      apply congrArg Value.long
      unfold rk2
      first | rw [n1] at hz | rw [n2] at hz | rw [n3] at hz | rw [n4] at hz
      try simp (config := { decide := true }) only [if_true, if_false]
      first | exact iL_add _ _ | exact iL_sub _ _ | (rw [if_pos (by omega)]) | (rw [if_neg (by omega)])
  · refine ks_lookup (off := 55) (tgt := 56) dX7_ofTwo_1 (by decide) ((show ∀ q, q < 256 → (¬ q = 147 ∧ ¬ q = 148 ∧ ¬ q = 163) → Op.lookupswitch.offset [(147, 35), (148, 39), (163, 43)] 55 (nI q).toInt = 55 by decide +kernel) _ hop hsw) (by decide) ?_
    refine ks_lload_n dX7_ofTwo_56 rfl rfl ?_
    refine ks_lload_n dX7_ofTwo_57 rfl rfl ?_
    refine ks_lif_le (tgt := 66) dX7_ofTwo_58 rfl dX7_ofTwo_59 (by decide) rfl (fun hz => ?_) (fun hz => ?_)
    · refine ks_lload_n dX7_ofTwo_66 rfl rfl ?_
      refine ks_lret rfl dX7_ofTwo_67 ?_
      refine ⟨?_, rfl⟩
      apply congrArg some
      apply congrArg Value.long
      unfold rk2
      first | rw [n1] at hz | rw [n2] at hz | rw [n3] at hz | rw [n4] at hz
      rw [if_neg (by omega), if_neg (by omega), if_neg (by omega)]
      first | exact iL_add _ _ | exact iL_sub _ _ | (rw [if_pos (by omega)]) | (rw [if_neg (by omega)])
    · refine ks_lload_n dX7_ofTwo_62 rfl rfl ?_
      refine ks_goto (tgt := 67) dX7_ofTwo_63 (by decide) ?_
      refine ks_lret rfl dX7_ofTwo_67 ?_
      refine ⟨?_, rfl⟩
      apply congrArg some
      apply congrArg Value.long
      unfold rk2
      first | rw [n1] at hz | rw [n2] at hz | rw [n3] at hz | rw [n4] at hz
      rw [if_neg (by omega), if_neg (by omega), if_neg (by omega)]
      first | exact iL_add _ _ | exact iL_sub _ _ | (rw [if_pos (by omega)]) | (rw [if_neg (by omega)])
set_option maxRecDepth 100000 in
set_option maxHeartbeats 2000000 in
theorem c_mc_holds {l : Launch} {G : ks_G} {d : Nat} {S : ks_S} {op : Nat} (hop : op < 256) {a b : Int} (ha : -(2 ^ 31) < a) (ha2 : a < 2 ^ 31) (hb : -(2 ^ 31) < b) (hb2 : b < 2 ^ 31) : ks_P l G yX7_holds mX7_holds d [.int (nI op), .long (iL a), .long (iL b)] S (fun z S' => z = some (.int (ks_bo (rkH op a b))) ∧ S' = S) := by
  refine ks_of (by decide) rfl rfl (Nat.le_of_ble_eq_true rfl) ?_
  show ks_X l G mX7_holds d 0 [(0, .int (nI op)), (1, .long (iL a)), (3, .long (iL b))] [] S _
  have n1 := @iL_lt a b (by omega) (by omega) (by omega) (by omega)
  have n2 := @iL_lt b a (by omega) (by omega) (by omega) (by omega)
  have n3 := @iL_le a b (by omega) (by omega) (by omega) (by omega)
  have n4 := @iL_le b a (by omega) (by omega) (by omega) (by omega)
  have n5 := @iL_eq a b (by omega) (by omega) (by omega) (by omega)
  have n6 := @iL_eq a 0 (by omega) (by omega) (by omega) (by omega)
  have n7 := @iL_eq b 0 (by omega) (by omega) (by omega) (by omega)
  have z0 : (lN 0 : Int64) = iL 0 := rfl
  refine ks_iload_n dX7_holds_0 rfl rfl ?_
  have hsw : op = 154 ∨ op = 155 ∨ op = 156 ∨ op = 157 ∨ op = 158 ∨ op = 159 ∨ op = 160 ∨ op = 161 ∨ ((op < 154 ∨ 161 < op)) := by omega
  rcases hsw with rfl | rfl | rfl | rfl | rfl | rfl | rfl | rfl | hsw
  · refine ks_tableIn (off := 47) (tgt := 48) dX7_holds_1 (by decide) (by decide) (by decide) (by decide) ?_
    refine ks_lload_n dX7_holds_48 rfl rfl ?_
    refine ks_lconst (x := lN 0) dX7_holds_49 (by decide) rfl ?_
    refine ks_lif_eq (tgt := 64) dX7_holds_50 rfl dX7_holds_51 (by decide) rfl (fun hz0 => ?_) (fun hz0 => ?_)
    · refine ks_iconst (x := nI 0) dX7_holds_64 (by decide) rfl ?_
      refine ks_zret rfl rfl dX7_holds_65 ?_
      first | rw [z0, n6] at hz0 | rw [z0, n7] at hz0 | rw [n1] at hz0 | rw [n2] at hz0 | rw [n3] at hz0 | rw [n4] at hz0 | rw [n5] at hz0
      refine ⟨?_, rfl⟩
      apply congrArg some
      apply congrArg Value.int
      unfold rkH
      try simp (config := { decide := true }) only [if_true, if_false]
      rw [decide_eq_false (by omega)]
      rfl
    · refine ks_lload_n dX7_holds_54 rfl rfl ?_
      refine ks_lconst (x := lN 0) dX7_holds_55 (by decide) rfl ?_
      refine ks_lif_eq (tgt := 64) dX7_holds_56 rfl dX7_holds_57 (by decide) rfl (fun hz1 => ?_) (fun hz1 => ?_)
      · refine ks_iconst (x := nI 0) dX7_holds_64 (by decide) rfl ?_
        refine ks_zret rfl rfl dX7_holds_65 ?_
        first | rw [z0, n6] at hz0 | rw [z0, n7] at hz0 | rw [n1] at hz0 | rw [n2] at hz0 | rw [n3] at hz0 | rw [n4] at hz0 | rw [n5] at hz0
        first | rw [z0, n6] at hz1 | rw [z0, n7] at hz1 | rw [n1] at hz1 | rw [n2] at hz1 | rw [n3] at hz1 | rw [n4] at hz1 | rw [n5] at hz1
        refine ⟨?_, rfl⟩
        apply congrArg some
        apply congrArg Value.int
        unfold rkH
        try simp (config := { decide := true }) only [if_true, if_false]
        rw [decide_eq_false (by omega)]
        rfl
      · refine ks_iconst (x := nI 1) dX7_holds_60 (by decide) rfl ?_
        refine ks_goto (tgt := 65) dX7_holds_61 (by decide) ?_
        refine ks_zret rfl rfl dX7_holds_65 ?_
        first | rw [z0, n6] at hz0 | rw [z0, n7] at hz0 | rw [n1] at hz0 | rw [n2] at hz0 | rw [n3] at hz0 | rw [n4] at hz0 | rw [n5] at hz0
        first | rw [z0, n6] at hz1 | rw [z0, n7] at hz1 | rw [n1] at hz1 | rw [n2] at hz1 | rw [n3] at hz1 | rw [n4] at hz1 | rw [n5] at hz1
        refine ⟨?_, rfl⟩
        apply congrArg some
        apply congrArg Value.int
        unfold rkH
        try simp (config := { decide := true }) only [if_true, if_false]
        rw [decide_eq_true (by omega)]
        rfl
  · refine ks_tableIn (off := 65) (tgt := 66) dX7_holds_1 (by decide) (by decide) (by decide) (by decide) ?_
    refine ks_lload_n dX7_holds_66 rfl rfl ?_
    refine ks_lconst (x := lN 0) dX7_holds_67 (by decide) rfl ?_
    refine ks_lif_ne (tgt := 78) dX7_holds_68 rfl dX7_holds_69 (by decide) rfl (fun hz0 => ?_) (fun hz0 => ?_)
    · refine ks_iconst (x := nI 1) dX7_holds_78 (by decide) rfl ?_
      refine ks_goto (tgt := 83) dX7_holds_79 (by decide) ?_
      refine ks_zret rfl rfl dX7_holds_83 ?_
      first | rw [z0, n6] at hz0 | rw [z0, n7] at hz0 | rw [n1] at hz0 | rw [n2] at hz0 | rw [n3] at hz0 | rw [n4] at hz0 | rw [n5] at hz0
      refine ⟨?_, rfl⟩
      apply congrArg some
      apply congrArg Value.int
      unfold rkH
      try simp (config := { decide := true }) only [if_true, if_false]
      rw [decide_eq_true (by omega)]
      rfl
    · refine ks_lload_n dX7_holds_72 rfl rfl ?_
      refine ks_lconst (x := lN 0) dX7_holds_73 (by decide) rfl ?_
      refine ks_lif_eq (tgt := 82) dX7_holds_74 rfl dX7_holds_75 (by decide) rfl (fun hz1 => ?_) (fun hz1 => ?_)
      · refine ks_iconst (x := nI 0) dX7_holds_82 (by decide) rfl ?_
        refine ks_zret rfl rfl dX7_holds_83 ?_
        first | rw [z0, n6] at hz0 | rw [z0, n7] at hz0 | rw [n1] at hz0 | rw [n2] at hz0 | rw [n3] at hz0 | rw [n4] at hz0 | rw [n5] at hz0
        first | rw [z0, n6] at hz1 | rw [z0, n7] at hz1 | rw [n1] at hz1 | rw [n2] at hz1 | rw [n3] at hz1 | rw [n4] at hz1 | rw [n5] at hz1
        refine ⟨?_, rfl⟩
        apply congrArg some
        apply congrArg Value.int
        unfold rkH
        try simp (config := { decide := true }) only [if_true, if_false]
        rw [decide_eq_false (by omega)]
        rfl
      · refine ks_iconst (x := nI 1) dX7_holds_78 (by decide) rfl ?_
        refine ks_goto (tgt := 83) dX7_holds_79 (by decide) ?_
        refine ks_zret rfl rfl dX7_holds_83 ?_
        first | rw [z0, n6] at hz0 | rw [z0, n7] at hz0 | rw [n1] at hz0 | rw [n2] at hz0 | rw [n3] at hz0 | rw [n4] at hz0 | rw [n5] at hz0
        first | rw [z0, n6] at hz1 | rw [z0, n7] at hz1 | rw [n1] at hz1 | rw [n2] at hz1 | rw [n3] at hz1 | rw [n4] at hz1 | rw [n5] at hz1
        refine ⟨?_, rfl⟩
        apply congrArg some
        apply congrArg Value.int
        unfold rkH
        try simp (config := { decide := true }) only [if_true, if_false]
        rw [decide_eq_true (by omega)]
        rfl
  · refine ks_tableIn (off := 83) (tgt := 84) dX7_holds_1 (by decide) (by decide) (by decide) (by decide) ?_
    refine ks_lload_n dX7_holds_84 rfl rfl ?_
    refine ks_lload_n dX7_holds_85 rfl rfl ?_
    refine ks_lif_ne (tgt := 94) dX7_holds_86 rfl dX7_holds_87 (by decide) rfl (fun hz0 => ?_) (fun hz0 => ?_)
    · refine ks_iconst (x := nI 0) dX7_holds_94 (by decide) rfl ?_
      refine ks_zret rfl rfl dX7_holds_95 ?_
      first | rw [z0, n6] at hz0 | rw [z0, n7] at hz0 | rw [n1] at hz0 | rw [n2] at hz0 | rw [n3] at hz0 | rw [n4] at hz0 | rw [n5] at hz0
      refine ⟨?_, rfl⟩
      apply congrArg some
      apply congrArg Value.int
      unfold rkH
      try simp (config := { decide := true }) only [if_true, if_false]
      rw [decide_eq_false (by omega)]
      rfl
    · refine ks_iconst (x := nI 1) dX7_holds_90 (by decide) rfl ?_
      refine ks_goto (tgt := 95) dX7_holds_91 (by decide) ?_
      refine ks_zret rfl rfl dX7_holds_95 ?_
      first | rw [z0, n6] at hz0 | rw [z0, n7] at hz0 | rw [n1] at hz0 | rw [n2] at hz0 | rw [n3] at hz0 | rw [n4] at hz0 | rw [n5] at hz0
      refine ⟨?_, rfl⟩
      apply congrArg some
      apply congrArg Value.int
      unfold rkH
      try simp (config := { decide := true }) only [if_true, if_false]
      rw [decide_eq_true (by omega)]
      rfl
  · refine ks_tableIn (off := 83) (tgt := 84) dX7_holds_1 (by decide) (by decide) (by decide) (by decide) ?_
    refine ks_lload_n dX7_holds_84 rfl rfl ?_
    refine ks_lload_n dX7_holds_85 rfl rfl ?_
    refine ks_lif_ne (tgt := 94) dX7_holds_86 rfl dX7_holds_87 (by decide) rfl (fun hz0 => ?_) (fun hz0 => ?_)
    · refine ks_iconst (x := nI 0) dX7_holds_94 (by decide) rfl ?_
      refine ks_zret rfl rfl dX7_holds_95 ?_
      first | rw [z0, n6] at hz0 | rw [z0, n7] at hz0 | rw [n1] at hz0 | rw [n2] at hz0 | rw [n3] at hz0 | rw [n4] at hz0 | rw [n5] at hz0
      refine ⟨?_, rfl⟩
      apply congrArg some
      apply congrArg Value.int
      unfold rkH
      try simp (config := { decide := true }) only [if_true, if_false]
      rw [decide_eq_false (by omega)]
      rfl
    · refine ks_iconst (x := nI 1) dX7_holds_90 (by decide) rfl ?_
      refine ks_goto (tgt := 95) dX7_holds_91 (by decide) ?_
      refine ks_zret rfl rfl dX7_holds_95 ?_
      first | rw [z0, n6] at hz0 | rw [z0, n7] at hz0 | rw [n1] at hz0 | rw [n2] at hz0 | rw [n3] at hz0 | rw [n4] at hz0 | rw [n5] at hz0
      refine ⟨?_, rfl⟩
      apply congrArg some
      apply congrArg Value.int
      unfold rkH
      try simp (config := { decide := true }) only [if_true, if_false]
      rw [decide_eq_true (by omega)]
      rfl
  · refine ks_tableIn (off := 95) (tgt := 96) dX7_holds_1 (by decide) (by decide) (by decide) (by decide) ?_
    refine ks_lload_n dX7_holds_96 rfl rfl ?_
    refine ks_lload_n dX7_holds_97 rfl rfl ?_
    refine ks_lif_eq (tgt := 106) dX7_holds_98 rfl dX7_holds_99 (by decide) rfl (fun hz0 => ?_) (fun hz0 => ?_)
    · refine ks_iconst (x := nI 0) dX7_holds_106 (by decide) rfl ?_
      refine ks_zret rfl rfl dX7_holds_107 ?_
      first | rw [z0, n6] at hz0 | rw [z0, n7] at hz0 | rw [n1] at hz0 | rw [n2] at hz0 | rw [n3] at hz0 | rw [n4] at hz0 | rw [n5] at hz0
      refine ⟨?_, rfl⟩
      apply congrArg some
      apply congrArg Value.int
      unfold rkH
      try simp (config := { decide := true }) only [if_true, if_false]
      rw [decide_eq_false (by omega)]
      rfl
    · refine ks_iconst (x := nI 1) dX7_holds_102 (by decide) rfl ?_
      refine ks_goto (tgt := 107) dX7_holds_103 (by decide) ?_
      refine ks_zret rfl rfl dX7_holds_107 ?_
      first | rw [z0, n6] at hz0 | rw [z0, n7] at hz0 | rw [n1] at hz0 | rw [n2] at hz0 | rw [n3] at hz0 | rw [n4] at hz0 | rw [n5] at hz0
      refine ⟨?_, rfl⟩
      apply congrArg some
      apply congrArg Value.int
      unfold rkH
      try simp (config := { decide := true }) only [if_true, if_false]
      rw [decide_eq_true (by omega)]
      rfl
  · refine ks_tableIn (off := 107) (tgt := 108) dX7_holds_1 (by decide) (by decide) (by decide) (by decide) ?_
    refine ks_lload_n dX7_holds_108 rfl rfl ?_
    refine ks_lload_n dX7_holds_109 rfl rfl ?_
    refine ks_lif_ge (tgt := 118) dX7_holds_110 rfl dX7_holds_111 (by decide) rfl (fun hz0 => ?_) (fun hz0 => ?_)
    · refine ks_iconst (x := nI 0) dX7_holds_118 (by decide) rfl ?_
      refine ks_zret rfl rfl dX7_holds_119 ?_
      first | rw [z0, n6] at hz0 | rw [z0, n7] at hz0 | rw [n1] at hz0 | rw [n2] at hz0 | rw [n3] at hz0 | rw [n4] at hz0 | rw [n5] at hz0
      refine ⟨?_, rfl⟩
      apply congrArg some
      apply congrArg Value.int
      unfold rkH
      try simp (config := { decide := true }) only [if_true, if_false]
      rw [decide_eq_false (by omega)]
      rfl
    · refine ks_iconst (x := nI 1) dX7_holds_114 (by decide) rfl ?_
      refine ks_goto (tgt := 119) dX7_holds_115 (by decide) ?_
      refine ks_zret rfl rfl dX7_holds_119 ?_
      first | rw [z0, n6] at hz0 | rw [z0, n7] at hz0 | rw [n1] at hz0 | rw [n2] at hz0 | rw [n3] at hz0 | rw [n4] at hz0 | rw [n5] at hz0
      refine ⟨?_, rfl⟩
      apply congrArg some
      apply congrArg Value.int
      unfold rkH
      try simp (config := { decide := true }) only [if_true, if_false]
      rw [decide_eq_true (by omega)]
      rfl
  · refine ks_tableIn (off := 119) (tgt := 120) dX7_holds_1 (by decide) (by decide) (by decide) (by decide) ?_
    refine ks_lload_n dX7_holds_120 rfl rfl ?_
    refine ks_lload_n dX7_holds_121 rfl rfl ?_
    refine ks_lif_le (tgt := 130) dX7_holds_122 rfl dX7_holds_123 (by decide) rfl (fun hz0 => ?_) (fun hz0 => ?_)
    · refine ks_iconst (x := nI 0) dX7_holds_130 (by decide) rfl ?_
      refine ks_zret rfl rfl dX7_holds_131 ?_
      first | rw [z0, n6] at hz0 | rw [z0, n7] at hz0 | rw [n1] at hz0 | rw [n2] at hz0 | rw [n3] at hz0 | rw [n4] at hz0 | rw [n5] at hz0
      refine ⟨?_, rfl⟩
      apply congrArg some
      apply congrArg Value.int
      unfold rkH
      try simp (config := { decide := true }) only [if_true, if_false]
      rw [decide_eq_false (by omega)]
      rfl
    · refine ks_iconst (x := nI 1) dX7_holds_126 (by decide) rfl ?_
      refine ks_goto (tgt := 131) dX7_holds_127 (by decide) ?_
      refine ks_zret rfl rfl dX7_holds_131 ?_
      first | rw [z0, n6] at hz0 | rw [z0, n7] at hz0 | rw [n1] at hz0 | rw [n2] at hz0 | rw [n3] at hz0 | rw [n4] at hz0 | rw [n5] at hz0
      refine ⟨?_, rfl⟩
      apply congrArg some
      apply congrArg Value.int
      unfold rkH
      try simp (config := { decide := true }) only [if_true, if_false]
      rw [decide_eq_true (by omega)]
      rfl
  · refine ks_tableIn (off := 131) (tgt := 132) dX7_holds_1 (by decide) (by decide) (by decide) (by decide) ?_
    refine ks_lload_n dX7_holds_132 rfl rfl ?_
    refine ks_lload_n dX7_holds_133 rfl rfl ?_
    refine ks_lif_gt (tgt := 142) dX7_holds_134 rfl dX7_holds_135 (by decide) rfl (fun hz0 => ?_) (fun hz0 => ?_)
    · refine ks_iconst (x := nI 0) dX7_holds_142 (by decide) rfl ?_
      refine ks_zret rfl rfl dX7_holds_143 ?_
      first | rw [z0, n6] at hz0 | rw [z0, n7] at hz0 | rw [n1] at hz0 | rw [n2] at hz0 | rw [n3] at hz0 | rw [n4] at hz0 | rw [n5] at hz0
      refine ⟨?_, rfl⟩
      apply congrArg some
      apply congrArg Value.int
      unfold rkH
      try simp (config := { decide := true }) only [if_true, if_false]
      rw [decide_eq_false (by omega)]
      rfl
    · refine ks_iconst (x := nI 1) dX7_holds_138 (by decide) rfl ?_
      refine ks_goto (tgt := 143) dX7_holds_139 (by decide) ?_
      refine ks_zret rfl rfl dX7_holds_143 ?_
      first | rw [z0, n6] at hz0 | rw [z0, n7] at hz0 | rw [n1] at hz0 | rw [n2] at hz0 | rw [n3] at hz0 | rw [n4] at hz0 | rw [n5] at hz0
      refine ⟨?_, rfl⟩
      apply congrArg some
      apply congrArg Value.int
      unfold rkH
      try simp (config := { decide := true }) only [if_true, if_false]
      rw [decide_eq_true (by omega)]
      rfl
  · refine ks_tableOut (tgt := 144) dX7_holds_1 ((show ∀ q, q < 256 → (q < 154 ∨ 161 < q) → ((nI q).toInt < 154 ∨ 161 < (nI q).toInt) by decide +kernel) _ hop hsw) (by decide) ?_
    refine ks_lload_n dX7_holds_144 rfl rfl ?_
    refine ks_lload_n dX7_holds_145 rfl rfl ?_
    refine ks_lif_lt (tgt := 154) dX7_holds_146 rfl dX7_holds_147 (by decide) rfl (fun hz0 => ?_) (fun hz0 => ?_)
    · refine ks_iconst (x := nI 0) dX7_holds_154 (by decide) rfl ?_
      refine ks_zret rfl rfl dX7_holds_155 ?_
      first | rw [z0, n6] at hz0 | rw [z0, n7] at hz0 | rw [n1] at hz0 | rw [n2] at hz0 | rw [n3] at hz0 | rw [n4] at hz0 | rw [n5] at hz0
      refine ⟨?_, rfl⟩
      apply congrArg some
      apply congrArg Value.int
      unfold rkH
      rw [if_neg (by omega), if_neg (by omega), if_neg (by omega), if_neg (by omega), if_neg (by omega), if_neg (by omega), if_neg (by omega)]
      rw [decide_eq_false (by omega)]
      rfl
    · refine ks_iconst (x := nI 1) dX7_holds_150 (by decide) rfl ?_
      refine ks_goto (tgt := 155) dX7_holds_151 (by decide) ?_
      refine ks_zret rfl rfl dX7_holds_155 ?_
      first | rw [z0, n6] at hz0 | rw [z0, n7] at hz0 | rw [n1] at hz0 | rw [n2] at hz0 | rw [n3] at hz0 | rw [n4] at hz0 | rw [n5] at hz0
      refine ⟨?_, rfl⟩
      apply congrArg some
      apply congrArg Value.int
      unfold rkH
      rw [if_neg (by omega), if_neg (by omega), if_neg (by omega), if_neg (by omega), if_neg (by omega), if_neg (by omega), if_neg (by omega)]
      rw [decide_eq_true (by omega)]
      rfl

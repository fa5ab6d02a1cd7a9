/-! CURVE: multiply, the columns -/
theorem nine {k : Nat} (h : k < 9) : k = 0 ∨ k = 1 ∨ k = 2 ∨ k = 3 ∨ k = 4 ∨ k = 5 ∨ k = 6 ∨ k = 7 ∨ k = 8 := by omega
theorem mul_all {X Y a0 a1 a2 a3 a4 a5 a6 a7 a8 b0 b1 b2 b3 b4 b5 b6 b7 b8 c9 c10 c11 c12 c13 c14 c15 c16 h0 h1 h2 h3 h4 h5 h6 h7 h8 q0 q1 q2 q3 q4 q5 q6 q7 q8 d0 d1 d2 d3 d4 d5 d6 d7 d8 t : Nat} (hX : X < 2 ^ 256) (hY : Y < 2 ^ 256) (ha0 : dL X 0 = a0) (ha1 : dL X 1 = a1) (ha2 : dL X 2 = a2) (ha3 : dL X 3 = a3) (ha4 : dL X 4 = a4) (ha5 : dL X 5 = a5) (ha6 : dL X 6 = a6) (ha7 : dL X 7 = a7) (ha8 : dL X 8 = a8) (hb0 : dL Y 0 = b0) (hb1 : dL Y 1 = b1) (hb2 : dL Y 2 = b2) (hb3 : dL Y 3 = b3) (hb4 : dL Y 4 = b4) (hb5 : dL Y 5 = b5) (hb6 : dL Y 6 = b6) (hb7 : dL Y 7 = b7) (hb8 : dL Y 8 = b8) (e_c9 : a1 * b8 + (a2 * b7) + (a3 * b6) + (a4 * b5) + (a5 * b4) + (a6 * b3) + (a7 * b2) + (a8 * b1) = c9) (e_c10 : c9 / 2 ^ 29 + (a2 * b8) + (a3 * b7) + (a4 * b6) + (a5 * b5) + (a6 * b4) + (a7 * b3) + (a8 * b2) = c10) (e_c11 : c10 / 2 ^ 29 + (a3 * b8) + (a4 * b7) + (a5 * b6) + (a6 * b5) + (a7 * b4) + (a8 * b3) = c11) (e_c12 : c11 / 2 ^ 29 + (a4 * b8) + (a5 * b7) + (a6 * b6) + (a7 * b5) + (a8 * b4) = c12) (e_c13 : c12 / 2 ^ 29 + (a5 * b8) + (a6 * b7) + (a7 * b6) + (a8 * b5) = c13) (e_c14 : c13 / 2 ^ 29 + (a6 * b8) + (a7 * b7) + (a8 * b6) = c14) (e_c15 : c14 / 2 ^ 29 + (a7 * b8) + (a8 * b7) = c15) (e_c16 : c15 / 2 ^ 29 + (a8 * b8) = c16) (e_h0 : c9 % 536870912 = h0) (e_h1 : c10 % 536870912 = h1) (e_h2 : c11 % 536870912 = h2) (e_h3 : c12 % 536870912 = h3) (e_h4 : c13 % 536870912 = h4) (e_h5 : c14 % 536870912 = h5) (e_h6 : c15 % 536870912 = h6) (e_h7 : c16 % 536870912 = h7) (e_h8 : c16 / 2 ^ 29 = h8) (e_q0 : a0 * b0 + (31264 * h0) + (8003584 * h8) = q0) (e_q1 : q0 / 2 ^ 29 + (a0 * b1) + (a1 * b0) + (31264 * h1) + (256 * h0) + (65536 * h8) = q1) (e_q2 : q1 / 2 ^ 29 + (a0 * b2) + (a1 * b1) + (a2 * b0) + (31264 * h2) + (256 * h1) = q2) (e_q3 : q2 / 2 ^ 29 + (a0 * b3) + (a1 * b2) + (a2 * b1) + (a3 * b0) + (31264 * h3) + (256 * h2) = q3) (e_q4 : q3 / 2 ^ 29 + (a0 * b4) + (a1 * b3) + (a2 * b2) + (a3 * b1) + (a4 * b0) + (31264 * h4) + (256 * h3) = q4) (e_q5 : q4 / 2 ^ 29 + (a0 * b5) + (a1 * b4) + (a2 * b3) + (a3 * b2) + (a4 * b1) + (a5 * b0) + (31264 * h5) + (256 * h4) = q5) (e_q6 : q5 / 2 ^ 29 + (a0 * b6) + (a1 * b5) + (a2 * b4) + (a3 * b3) + (a4 * b2) + (a5 * b1) + (a6 * b0) + (31264 * h6) + (256 * h5) = q6) (e_q7 : q6 / 2 ^ 29 + (a0 * b7) + (a1 * b6) + (a2 * b5) + (a3 * b4) + (a4 * b3) + (a5 * b2) + (a6 * b1) + (a7 * b0) + (31264 * h7) + (256 * h6) = q7) (e_q8 : q7 / 2 ^ 29 + (a0 * b8) + (a1 * b7) + (a2 * b6) + (a3 * b5) + (a4 * b4) + (a5 * b3) + (a6 * b2) + (a7 * b1) + (a8 * b0) + (31264 * h8) + (256 * h7) = q8) (e_d0 : q0 % 536870912 = d0) (e_d1 : q1 % 536870912 = d1) (e_d2 : q2 % 536870912 = d2) (e_d3 : q3 % 536870912 = d3) (e_d4 : q4 % 536870912 = d4) (e_d5 : q5 % 536870912 = d5) (e_d6 : q6 % 536870912 = d6) (e_d7 : q7 % 536870912 = d7) (e_d8 : q8 % 16777216 = d8) (e_t : q8 / 2 ^ 24 = t) : X * Y % pP = ((d0 + 977 * t) + 536870912 * ((d1 + 8 * t) + 536870912 * (d2 + 536870912 * (d3 + 536870912 * (d4 + 536870912 * (d5 + 536870912 * (d6 + 536870912 * (d7 + 536870912 * d8)))))))) % pP := by
  have eX : X = a0 + 536870912 * (a1 + 536870912 * (a2 + 536870912 * (a3 + 536870912 * (a4 + 536870912 * (a5 + 536870912 * (a6 + 536870912 * (a7 + 536870912 * (a8)))))))) := by
    rw [← ha0, ← ha1, ← ha2, ← ha3, ← ha4, ← ha5, ← ha6, ← ha7, ← ha8]
    have := dL_val (Nat.lt_trans hX (show 2 ^ 256 < 3705346855594118253554271520278013051304639509300498049262642688253220148477952 by decide))
    rw [dg_9] at this
    exact this.symm
  have eY : Y = b0 + 536870912 * (b1 + 536870912 * (b2 + 536870912 * (b3 + 536870912 * (b4 + 536870912 * (b5 + 536870912 * (b6 + 536870912 * (b7 + 536870912 * (b8)))))))) := by
    rw [← hb0, ← hb1, ← hb2, ← hb3, ← hb4, ← hb5, ← hb6, ← hb7, ← hb8]
    have := dL_val (Nat.lt_trans hY (show 2 ^ 256 < 3705346855594118253554271520278013051304639509300498049262642688253220148477952 by decide))
    rw [dg_9] at this
    exact this.symm
  have hi := mul_high (S9 := a1 * b8 + a2 * b7 + a3 * b6 + a4 * b5 + a5 * b4 + a6 * b3 + a7 * b2 + a8 * b1) (S10 := a2 * b8 + a3 * b7 + a4 * b6 + a5 * b5 + a6 * b4 + a7 * b3 + a8 * b2) (S11 := a3 * b8 + a4 * b7 + a5 * b6 + a6 * b5 + a7 * b4 + a8 * b3) (S12 := a4 * b8 + a5 * b7 + a6 * b6 + a7 * b5 + a8 * b4) (S13 := a5 * b8 + a6 * b7 + a7 * b6 + a8 * b5) (S14 := a6 * b8 + a7 * b7 + a8 * b6) (S15 := a7 * b8 + a8 * b7) (S16 := a8 * b8) (c9 := c9) (c10 := c10) (c11 := c11) (c12 := c12) (c13 := c13) (c14 := c14) (c15 := c15) (c16 := c16) (by rw [← e_c9]) (by rw [← e_c10]; first | done | rfl | (simp only [← Nat.add_assoc]; done) | (simp only [← Nat.add_assoc]; rfl) | (simp only [← Nat.add_assoc]; omega)) (by rw [← e_c11]; first | done | rfl | (simp only [← Nat.add_assoc]; done) | (simp only [← Nat.add_assoc]; rfl) | (simp only [← Nat.add_assoc]; omega)) (by rw [← e_c12]; first | done | rfl | (simp only [← Nat.add_assoc]; done) | (simp only [← Nat.add_assoc]; rfl) | (simp only [← Nat.add_assoc]; omega)) (by rw [← e_c13]; first | done | rfl | (simp only [← Nat.add_assoc]; done) | (simp only [← Nat.add_assoc]; rfl) | (simp only [← Nat.add_assoc]; omega)) (by rw [← e_c14]; first | done | rfl | (simp only [← Nat.add_assoc]; done) | (simp only [← Nat.add_assoc]; rfl) | (simp only [← Nat.add_assoc]; omega)) (by rw [← e_c15]; first | done | rfl | (simp only [← Nat.add_assoc]; done) | (simp only [← Nat.add_assoc]; rfl) | (simp only [← Nat.add_assoc]; omega)) (by rw [← e_c16]; first | done | rfl | (simp only [← Nat.add_assoc]; done) | (simp only [← Nat.add_assoc]; rfl) | (simp only [← Nat.add_assoc]; omega)) e_h0 e_h1 e_h2 e_h3 e_h4 e_h5 e_h6 e_h7 e_h8
  have lo := mul_low (S0 := a0 * b0) (S1 := a0 * b1 + a1 * b0) (S2 := a0 * b2 + a1 * b1 + a2 * b0) (S3 := a0 * b3 + a1 * b2 + a2 * b1 + a3 * b0) (S4 := a0 * b4 + a1 * b3 + a2 * b2 + a3 * b1 + a4 * b0) (S5 := a0 * b5 + a1 * b4 + a2 * b3 + a3 * b2 + a4 * b1 + a5 * b0) (S6 := a0 * b6 + a1 * b5 + a2 * b4 + a3 * b3 + a4 * b2 + a5 * b1 + a6 * b0) (S7 := a0 * b7 + a1 * b6 + a2 * b5 + a3 * b4 + a4 * b3 + a5 * b2 + a6 * b1 + a7 * b0) (S8 := a0 * b8 + a1 * b7 + a2 * b6 + a3 * b5 + a4 * b4 + a5 * b3 + a6 * b2 + a7 * b1 + a8 * b0) (by rw [← e_q0]; first | done | rfl | (simp only [← Nat.add_assoc]; done) | (simp only [← Nat.add_assoc]; rfl) | (simp only [← Nat.add_assoc]; omega)) (by rw [← e_q1]; first | done | rfl | (simp only [← Nat.add_assoc]; done) | (simp only [← Nat.add_assoc]; rfl) | (simp only [← Nat.add_assoc]; omega)) (by rw [← e_q2]; first | done | rfl | (simp only [← Nat.add_assoc]; done) | (simp only [← Nat.add_assoc]; rfl) | (simp only [← Nat.add_assoc]; omega)) (by rw [← e_q3]; first | done | rfl | (simp only [← Nat.add_assoc]; done) | (simp only [← Nat.add_assoc]; rfl) | (simp only [← Nat.add_assoc]; omega)) (by rw [← e_q4]; first | done | rfl | (simp only [← Nat.add_assoc]; done) | (simp only [← Nat.add_assoc]; rfl) | (simp only [← Nat.add_assoc]; omega)) (by rw [← e_q5]; first | done | rfl | (simp only [← Nat.add_assoc]; done) | (simp only [← Nat.add_assoc]; rfl) | (simp only [← Nat.add_assoc]; omega)) (by rw [← e_q6]; first | done | rfl | (simp only [← Nat.add_assoc]; done) | (simp only [← Nat.add_assoc]; rfl) | (simp only [← Nat.add_assoc]; omega)) (by rw [← e_q7]; first | done | rfl | (simp only [← Nat.add_assoc]; done) | (simp only [← Nat.add_assoc]; rfl) | (simp only [← Nat.add_assoc]; omega)) (by rw [← e_q8]; first | done | rfl | (simp only [← Nat.add_assoc]; done) | (simp only [← Nat.add_assoc]; rfl) | (simp only [← Nat.add_assoc]; omega)) e_d0 e_d1 e_d2 e_d3 e_d4 e_d5 e_d6 e_d7 e_d8 e_t
  have fo := mul_fold lo
  rw [← hi] at fo
  have sp := mul_split (S0 := a0 * b0) (S1 := a0 * b1 + a1 * b0) (S2 := a0 * b2 + a1 * b1 + a2 * b0) (S3 := a0 * b3 + a1 * b2 + a2 * b1 + a3 * b0) (S4 := a0 * b4 + a1 * b3 + a2 * b2 + a3 * b1 + a4 * b0) (S5 := a0 * b5 + a1 * b4 + a2 * b3 + a3 * b2 + a4 * b1 + a5 * b0) (S6 := a0 * b6 + a1 * b5 + a2 * b4 + a3 * b3 + a4 * b2 + a5 * b1 + a6 * b0) (S7 := a0 * b7 + a1 * b6 + a2 * b5 + a3 * b4 + a4 * b3 + a5 * b2 + a6 * b1 + a7 * b0) (S8 := a0 * b8 + a1 * b7 + a2 * b6 + a3 * b5 + a4 * b4 + a5 * b3 + a6 * b2 + a7 * b1 + a8 * b0) (S9 := a1 * b8 + a2 * b7 + a3 * b6 + a4 * b5 + a5 * b4 + a6 * b3 + a7 * b2 + a8 * b1) (S10 := a2 * b8 + a3 * b7 + a4 * b6 + a5 * b5 + a6 * b4 + a7 * b3 + a8 * b2) (S11 := a3 * b8 + a4 * b7 + a5 * b6 + a6 * b5 + a7 * b4 + a8 * b3) (S12 := a4 * b8 + a5 * b7 + a6 * b6 + a7 * b5 + a8 * b4) (S13 := a5 * b8 + a6 * b7 + a7 * b6 + a8 * b5) (S14 := a6 * b8 + a7 * b7 + a8 * b6) (S15 := a7 * b8 + a8 * b7) (S16 := a8 * b8)
  have co := mul_cols 536870912 a0 a1 a2 a3 a4 a5 a6 a7 a8 b0 b1 b2 b3 b4 b5 b6 b7 b8
  rw [eX, eY, co, sp, fo, Nat.add_mul_mod_self_left]
theorem mul_small {X Y d0 d1 d2 d3 d4 d5 d6 d7 d8 t : Nat} (hX : X < 2 ^ 256) (hY : Y < 2 ^ 256) (l0 : d0 ≤ 536870911) (l1 : d1 ≤ 536870911) (l2 : d2 ≤ 536870911) (l3 : d3 ≤ 536870911) (l4 : d4 ≤ 536870911) (l5 : d5 ≤ 536870911) (l6 : d6 ≤ 536870911) (l7 : d7 ≤ 536870911) (l8 : d8 ≤ 16777215) (lt : t ≤ 154619830976) : ((d0 + 977 * t) + 536870912 * ((d1 + 8 * t) + 536870912 * (d2 + 536870912 * (d3 + 536870912 * (d4 + 536870912 * (d5 + 536870912 * (d6 + 536870912 * (d7 + 536870912 * d8)))))))) < 2 * pP := by
  unfold pP
  omega
theorem mul_carry {d0 d1 d2 d3 d4 d5 d6 d7 d8 t u0 u1 r0 r1 z : Nat} (e_u0 : d0 + (977 * t) = u0) (e_u1 : d1 + (8 * t + (u0 / 2 ^ 29)) = u1) (e_r0 : u0 % 536870912 = r0) (e_r1 : u1 % 536870912 = r1) (e_z : u1 / 2 ^ 29 = z) : r0 + 536870912 * (r1 + 536870912 * (d2 + 536870912 * (d3 + 536870912 * (d4 + 536870912 * (d5 + 536870912 * (d6 + 536870912 * (d7 + 536870912 * d8))))))) + z * 536870912 ^ 2 = ((d0 + 977 * t) + 536870912 * ((d1 + 8 * t) + 536870912 * (d2 + 536870912 * (d3 + 536870912 * (d4 + 536870912 * (d5 + 536870912 * (d6 + 536870912 * (d7 + 536870912 * d8)))))))) := by
  omega
set_option maxRecDepth 100000 in
set_option maxHeartbeats 8000000 in
theorem c_cv_multiply {l : Launch} {G : ks_G} {d : Nat} {S : ks_S} {R : Nat → Nat} {ir : Bool} {o x y : Nat} (hC : S.2.2 14 = some (cvO ir)) (hF : fdX S 15 16 100 R) (hR : R 100 = pP) (ho : o < 100) (hx : x < 105) (hy : y < 105) (hX : R x < 2 ^ 256) (hY : R y < 2 ^ 256) : ks_P l G yX3_multiply mX3_multiply d [.ref 14, .int (nI (9 * o)), .int (nI (9 * x)), .int (nI (9 * y))] S (fun z S' => z = none ∧ ks_up S S' [16] ∧ fdX S' 15 16 100 (va_up R o (R x * R y % pP))) := by
  obtain ⟨a0, ha0⟩ : ∃ a, dL (R x) 0 = a := ⟨_, rfl⟩
  have A0 : a0 ≤ 536870911 := by have := dL_lt (R x) 0; omega
  obtain ⟨a1, ha1⟩ : ∃ a, dL (R x) 1 = a := ⟨_, rfl⟩
  have A1 : a1 ≤ 536870911 := by have := dL_lt (R x) 1; omega
  obtain ⟨a2, ha2⟩ : ∃ a, dL (R x) 2 = a := ⟨_, rfl⟩
  have A2 : a2 ≤ 536870911 := by have := dL_lt (R x) 2; omega
  obtain ⟨a3, ha3⟩ : ∃ a, dL (R x) 3 = a := ⟨_, rfl⟩
  have A3 : a3 ≤ 536870911 := by have := dL_lt (R x) 3; omega
  obtain ⟨a4, ha4⟩ : ∃ a, dL (R x) 4 = a := ⟨_, rfl⟩
  have A4 : a4 ≤ 536870911 := by have := dL_lt (R x) 4; omega
  obtain ⟨a5, ha5⟩ : ∃ a, dL (R x) 5 = a := ⟨_, rfl⟩
  have A5 : a5 ≤ 536870911 := by have := dL_lt (R x) 5; omega
  obtain ⟨a6, ha6⟩ : ∃ a, dL (R x) 6 = a := ⟨_, rfl⟩
  have A6 : a6 ≤ 536870911 := by have := dL_lt (R x) 6; omega
  obtain ⟨a7, ha7⟩ : ∃ a, dL (R x) 7 = a := ⟨_, rfl⟩
  have A7 : a7 ≤ 536870911 := by have := dL_lt (R x) 7; omega
  obtain ⟨a8, ha8⟩ : ∃ a, dL (R x) 8 = a := ⟨_, rfl⟩
  have A8 : a8 ≤ 536870911 := by have := dL_lt (R x) 8; omega
  obtain ⟨b0, hb0⟩ : ∃ b, dL (R y) 0 = b := ⟨_, rfl⟩
  have B0 : b0 ≤ 536870911 := by have := dL_lt (R y) 0; omega
  obtain ⟨b1, hb1⟩ : ∃ b, dL (R y) 1 = b := ⟨_, rfl⟩
  have B1 : b1 ≤ 536870911 := by have := dL_lt (R y) 1; omega
  obtain ⟨b2, hb2⟩ : ∃ b, dL (R y) 2 = b := ⟨_, rfl⟩
  have B2 : b2 ≤ 536870911 := by have := dL_lt (R y) 2; omega
  obtain ⟨b3, hb3⟩ : ∃ b, dL (R y) 3 = b := ⟨_, rfl⟩
  have B3 : b3 ≤ 536870911 := by have := dL_lt (R y) 3; omega
  obtain ⟨b4, hb4⟩ : ∃ b, dL (R y) 4 = b := ⟨_, rfl⟩
  have B4 : b4 ≤ 536870911 := by have := dL_lt (R y) 4; omega
  obtain ⟨b5, hb5⟩ : ∃ b, dL (R y) 5 = b := ⟨_, rfl⟩
  have B5 : b5 ≤ 536870911 := by have := dL_lt (R y) 5; omega
  obtain ⟨b6, hb6⟩ : ∃ b, dL (R y) 6 = b := ⟨_, rfl⟩
  have B6 : b6 ≤ 536870911 := by have := dL_lt (R y) 6; omega
  obtain ⟨b7, hb7⟩ : ∃ b, dL (R y) 7 = b := ⟨_, rfl⟩
  have B7 : b7 ≤ 536870911 := by have := dL_lt (R y) 7; omega
  obtain ⟨b8, hb8⟩ : ∃ b, dL (R y) 8 = b := ⟨_, rfl⟩
  have B8 : b8 ≤ 536870911 := by have := dL_lt (R y) 8; omega
  have hox : (9 * o) + 9 ≤ 945 := by omega
  refine ks_of (by decide) rfl rfl (Nat.le_of_ble_eq_true rfl) ?_
  show ks_X l G mX3_multiply d 0 [(0, .ref 14), (1, .int (nI (9 * o))), (2, .int (nI (9 * x))), (3, .int (nI (9 * y)))] [] S _
  refine ks_aload_n dX3_multiply_0 rfl rfl ?_
  refine ks_getf (T := TX3) (kf := 0) kx_535 rfl in_X3 cl_X3 (by decide) hC rfl dX3_multiply_1 rfl ?_
  refine ks_getf (T := TX5) (kf := 0) kx_122 rfl in_X5 cl_X5 (by decide) hF.1 rfl dX3_multiply_4 rfl ?_
  refine ks_astore dX3_multiply_7 (by decide) rfl ?_
  refine ks_sub [(4, _), (0, _), (1, _), (2, _), (3, _)] rfl ?_
  refine ks_aload dX3_multiply_9 rfl rfl ?_
  refine ks_iload_n dX3_multiply_11 rfl rfl ?_
  refine ks_laldN (i := 9 * x) hF.2.1 rfl (by omega) (by decide) dX3_multiply_12 rfl ?_
  rw [lay_0, ha0]
  refine ks_lstore dX3_multiply_13 (by decide) rfl ?_
  refine ks_sub [(5, _), (0, _), (1, _), (2, _), (3, _), (4, _)] rfl ?_
  refine ks_aload dX3_multiply_15 rfl rfl ?_
  refine ks_iload_n dX3_multiply_17 rfl rfl ?_
  refine ks_iconst (x := nI 1) dX3_multiply_18 (by decide) rfl ?_
  refine ks_addN dX3_multiply_19 rfl ?_
  refine ks_laldN (i := 9 * x + 1) hF.2.1 rfl (by omega) (by decide) dX3_multiply_20 rfl ?_
  rw [lay_at R x (by decide), ha1]
  refine ks_lstore dX3_multiply_21 (by decide) rfl ?_
  refine ks_sub [(7, _), (0, _), (1, _), (2, _), (3, _), (4, _), (5, _)] rfl ?_
  refine ks_aload dX3_multiply_23 rfl rfl ?_
  refine ks_iload_n dX3_multiply_25 rfl rfl ?_
  refine ks_iconst (x := nI 2) dX3_multiply_26 (by decide) rfl ?_
  refine ks_addN dX3_multiply_27 rfl ?_
  refine ks_laldN (i := 9 * x + 2) hF.2.1 rfl (by omega) (by decide) dX3_multiply_28 rfl ?_
  rw [lay_at R x (by decide), ha2]
  refine ks_lstore dX3_multiply_29 (by decide) rfl ?_
  refine ks_sub [(9, _), (0, _), (1, _), (2, _), (3, _), (4, _), (5, _), (7, _)] rfl ?_
  refine ks_aload dX3_multiply_31 rfl rfl ?_
  refine ks_iload_n dX3_multiply_33 rfl rfl ?_
  refine ks_iconst (x := nI 3) dX3_multiply_34 (by decide) rfl ?_
  refine ks_addN dX3_multiply_35 rfl ?_
  refine ks_laldN (i := 9 * x + 3) hF.2.1 rfl (by omega) (by decide) dX3_multiply_36 rfl ?_
  rw [lay_at R x (by decide), ha3]
  refine ks_lstore dX3_multiply_37 (by decide) rfl ?_
  refine ks_sub [(11, _), (0, _), (1, _), (2, _), (3, _), (4, _), (5, _), (7, _), (9, _)] rfl ?_
  refine ks_aload dX3_multiply_39 rfl rfl ?_
  refine ks_iload_n dX3_multiply_41 rfl rfl ?_
  refine ks_iconst (x := nI 4) dX3_multiply_42 (by decide) rfl ?_
  refine ks_addN dX3_multiply_43 rfl ?_
  refine ks_laldN (i := 9 * x + 4) hF.2.1 rfl (by omega) (by decide) dX3_multiply_44 rfl ?_
  rw [lay_at R x (by decide), ha4]
  refine ks_lstore dX3_multiply_45 (by decide) rfl ?_
  refine ks_sub [(13, _), (0, _), (1, _), (2, _), (3, _), (4, _), (5, _), (7, _), (9, _), (11, _)] rfl ?_
  refine ks_aload dX3_multiply_47 rfl rfl ?_
  refine ks_iload_n dX3_multiply_49 rfl rfl ?_
  refine ks_iconst (x := nI 5) dX3_multiply_50 (by decide) rfl ?_
  refine ks_addN dX3_multiply_51 rfl ?_
  refine ks_laldN (i := 9 * x + 5) hF.2.1 rfl (by omega) (by decide) dX3_multiply_52 rfl ?_
  rw [lay_at R x (by decide), ha5]
  refine ks_lstore dX3_multiply_53 (by decide) rfl ?_
  refine ks_sub [(15, _), (0, _), (1, _), (2, _), (3, _), (4, _), (5, _), (7, _), (9, _), (11, _), (13, _)] rfl ?_
  refine ks_aload dX3_multiply_55 rfl rfl ?_
  refine ks_iload_n dX3_multiply_57 rfl rfl ?_
  refine ks_bipush (x := nI 6) dX3_multiply_58 (by decide) rfl ?_
  refine ks_addN dX3_multiply_60 rfl ?_
  refine ks_laldN (i := 9 * x + 6) hF.2.1 rfl (by omega) (by decide) dX3_multiply_61 rfl ?_
  rw [lay_at R x (by decide), ha6]
  refine ks_lstore dX3_multiply_62 (by decide) rfl ?_
  refine ks_sub [(17, _), (0, _), (1, _), (2, _), (3, _), (4, _), (5, _), (7, _), (9, _), (11, _), (13, _), (15, _)] rfl ?_
  refine ks_aload dX3_multiply_64 rfl rfl ?_
  refine ks_iload_n dX3_multiply_66 rfl rfl ?_
  refine ks_bipush (x := nI 7) dX3_multiply_67 (by decide) rfl ?_
  refine ks_addN dX3_multiply_69 rfl ?_
  refine ks_laldN (i := 9 * x + 7) hF.2.1 rfl (by omega) (by decide) dX3_multiply_70 rfl ?_
  rw [lay_at R x (by decide), ha7]
  refine ks_lstore dX3_multiply_71 (by decide) rfl ?_
  refine ks_sub [(19, _), (0, _), (1, _), (2, _), (3, _), (4, _), (5, _), (7, _), (9, _), (11, _), (13, _), (15, _), (17, _)] rfl ?_
  refine ks_aload dX3_multiply_73 rfl rfl ?_
  refine ks_iload_n dX3_multiply_75 rfl rfl ?_
  refine ks_bipush (x := nI 8) dX3_multiply_76 (by decide) rfl ?_
  refine ks_addN dX3_multiply_78 rfl ?_
  refine ks_laldN (i := 9 * x + 8) hF.2.1 rfl (by omega) (by decide) dX3_multiply_79 rfl ?_
  rw [lay_at R x (by decide), ha8]
  refine ks_lstore dX3_multiply_80 (by decide) rfl ?_
  refine ks_sub [(21, _), (0, _), (1, _), (2, _), (3, _), (4, _), (5, _), (7, _), (9, _), (11, _), (13, _), (15, _), (17, _), (19, _)] rfl ?_
  refine ks_aload dX3_multiply_82 rfl rfl ?_
  refine ks_iload_n dX3_multiply_84 rfl rfl ?_
  refine ks_laldN (i := 9 * y) hF.2.1 rfl (by omega) (by decide) dX3_multiply_85 rfl ?_
  rw [lay_0, hb0]
  refine ks_lstore dX3_multiply_86 (by decide) rfl ?_
  refine ks_sub [(23, _), (0, _), (1, _), (2, _), (3, _), (4, _), (5, _), (7, _), (9, _), (11, _), (13, _), (15, _), (17, _), (19, _), (21, _)] rfl ?_
  refine ks_aload dX3_multiply_88 rfl rfl ?_
  refine ks_iload_n dX3_multiply_90 rfl rfl ?_
  refine ks_iconst (x := nI 1) dX3_multiply_91 (by decide) rfl ?_
  refine ks_addN dX3_multiply_92 rfl ?_
  refine ks_laldN (i := 9 * y + 1) hF.2.1 rfl (by omega) (by decide) dX3_multiply_93 rfl ?_
  rw [lay_at R y (by decide), hb1]
  refine ks_lstore dX3_multiply_94 (by decide) rfl ?_
  refine ks_sub [(25, _), (0, _), (1, _), (2, _), (3, _), (4, _), (5, _), (7, _), (9, _), (11, _), (13, _), (15, _), (17, _), (19, _), (21, _), (23, _)] rfl ?_
  refine ks_aload dX3_multiply_96 rfl rfl ?_
  refine ks_iload_n dX3_multiply_98 rfl rfl ?_
  refine ks_iconst (x := nI 2) dX3_multiply_99 (by decide) rfl ?_
  refine ks_addN dX3_multiply_100 rfl ?_
  refine ks_laldN (i := 9 * y + 2) hF.2.1 rfl (by omega) (by decide) dX3_multiply_101 rfl ?_
  rw [lay_at R y (by decide), hb2]
  refine ks_lstore dX3_multiply_102 (by decide) rfl ?_
  refine ks_sub [(27, _), (0, _), (1, _), (2, _), (3, _), (4, _), (5, _), (7, _), (9, _), (11, _), (13, _), (15, _), (17, _), (19, _), (21, _), (23, _), (25, _)] rfl ?_
  refine ks_aload dX3_multiply_104 rfl rfl ?_
  refine ks_iload_n dX3_multiply_106 rfl rfl ?_
  refine ks_iconst (x := nI 3) dX3_multiply_107 (by decide) rfl ?_
  refine ks_addN dX3_multiply_108 rfl ?_
  refine ks_laldN (i := 9 * y + 3) hF.2.1 rfl (by omega) (by decide) dX3_multiply_109 rfl ?_
  rw [lay_at R y (by decide), hb3]
  refine ks_lstore dX3_multiply_110 (by decide) rfl ?_
  refine ks_sub [(29, _), (0, _), (1, _), (2, _), (3, _), (4, _), (5, _), (7, _), (9, _), (11, _), (13, _), (15, _), (17, _), (19, _), (21, _), (23, _), (25, _), (27, _)] rfl ?_
  refine ks_aload dX3_multiply_112 rfl rfl ?_
  refine ks_iload_n dX3_multiply_114 rfl rfl ?_
  refine ks_iconst (x := nI 4) dX3_multiply_115 (by decide) rfl ?_
  refine ks_addN dX3_multiply_116 rfl ?_
  refine ks_laldN (i := 9 * y + 4) hF.2.1 rfl (by omega) (by decide) dX3_multiply_117 rfl ?_
  rw [lay_at R y (by decide), hb4]
  refine ks_lstore dX3_multiply_118 (by decide) rfl ?_
  refine ks_sub [(31, _), (0, _), (1, _), (2, _), (3, _), (4, _), (5, _), (7, _), (9, _), (11, _), (13, _), (15, _), (17, _), (19, _), (21, _), (23, _), (25, _), (27, _), (29, _)] rfl ?_
  refine ks_aload dX3_multiply_120 rfl rfl ?_
  refine ks_iload_n dX3_multiply_122 rfl rfl ?_
  refine ks_iconst (x := nI 5) dX3_multiply_123 (by decide) rfl ?_
  refine ks_addN dX3_multiply_124 rfl ?_
  refine ks_laldN (i := 9 * y + 5) hF.2.1 rfl (by omega) (by decide) dX3_multiply_125 rfl ?_
  rw [lay_at R y (by decide), hb5]
  refine ks_lstore dX3_multiply_126 (by decide) rfl ?_
  refine ks_sub [(33, _), (0, _), (1, _), (2, _), (3, _), (4, _), (5, _), (7, _), (9, _), (11, _), (13, _), (15, _), (17, _), (19, _), (21, _), (23, _), (25, _), (27, _), (29, _), (31, _)] rfl ?_
  refine ks_aload dX3_multiply_128 rfl rfl ?_
  refine ks_iload_n dX3_multiply_130 rfl rfl ?_
  refine ks_bipush (x := nI 6) dX3_multiply_131 (by decide) rfl ?_
  refine ks_addN dX3_multiply_133 rfl ?_
  refine ks_laldN (i := 9 * y + 6) hF.2.1 rfl (by omega) (by decide) dX3_multiply_134 rfl ?_
  rw [lay_at R y (by decide), hb6]
  refine ks_lstore dX3_multiply_135 (by decide) rfl ?_
  refine ks_sub [(35, _), (0, _), (1, _), (2, _), (3, _), (4, _), (5, _), (7, _), (9, _), (11, _), (13, _), (15, _), (17, _), (19, _), (21, _), (23, _), (25, _), (27, _), (29, _), (31, _), (33, _)] rfl ?_
  refine ks_aload dX3_multiply_137 rfl rfl ?_
  refine ks_iload_n dX3_multiply_139 rfl rfl ?_
  refine ks_bipush (x := nI 7) dX3_multiply_140 (by decide) rfl ?_
  refine ks_addN dX3_multiply_142 rfl ?_
  refine ks_laldN (i := 9 * y + 7) hF.2.1 rfl (by omega) (by decide) dX3_multiply_143 rfl ?_
  rw [lay_at R y (by decide), hb7]
  refine ks_lstore dX3_multiply_144 (by decide) rfl ?_
  refine ks_sub [(37, _), (0, _), (1, _), (2, _), (3, _), (4, _), (5, _), (7, _), (9, _), (11, _), (13, _), (15, _), (17, _), (19, _), (21, _), (23, _), (25, _), (27, _), (29, _), (31, _), (33, _), (35, _)] rfl ?_
  refine ks_aload dX3_multiply_146 rfl rfl ?_
  refine ks_iload_n dX3_multiply_148 rfl rfl ?_
  refine ks_bipush (x := nI 8) dX3_multiply_149 (by decide) rfl ?_
  refine ks_addN dX3_multiply_151 rfl ?_
  refine ks_laldN (i := 9 * y + 8) hF.2.1 rfl (by omega) (by decide) dX3_multiply_152 rfl ?_
  rw [lay_at R y (by decide), hb8]
  refine ks_lstore dX3_multiply_153 (by decide) rfl ?_
  refine ks_sub [(39, _), (0, _), (1, _), (2, _), (3, _), (4, _), (5, _), (7, _), (9, _), (11, _), (13, _), (15, _), (17, _), (19, _), (21, _), (23, _), (25, _), (27, _), (29, _), (31, _), (33, _), (35, _), (37, _)] rfl ?_
  refine ks_lload dX3_multiply_155 rfl rfl ?_
  refine ks_lload dX3_multiply_157 rfl rfl ?_
  refine ks_lmulN dX3_multiply_159 rfl ?_
  refine ks_lload dX3_multiply_160 rfl rfl ?_
  refine ks_lload dX3_multiply_162 rfl rfl ?_
  refine ks_lmulN dX3_multiply_164 rfl ?_
  refine ks_laddN dX3_multiply_165 rfl ?_
  refine ks_lload dX3_multiply_166 rfl rfl ?_
  refine ks_lload dX3_multiply_168 rfl rfl ?_
  refine ks_lmulN dX3_multiply_170 rfl ?_
  refine ks_laddN dX3_multiply_171 rfl ?_
  refine ks_lload dX3_multiply_172 rfl rfl ?_
  refine ks_lload dX3_multiply_174 rfl rfl ?_
  refine ks_lmulN dX3_multiply_176 rfl ?_
  refine ks_laddN dX3_multiply_177 rfl ?_
  refine ks_lload dX3_multiply_178 rfl rfl ?_
  refine ks_lload dX3_multiply_180 rfl rfl ?_
  refine ks_lmulN dX3_multiply_182 rfl ?_
  refine ks_laddN dX3_multiply_183 rfl ?_
  refine ks_lload dX3_multiply_184 rfl rfl ?_
  refine ks_lload dX3_multiply_186 rfl rfl ?_
  refine ks_lmulN dX3_multiply_188 rfl ?_
  refine ks_laddN dX3_multiply_189 rfl ?_
  refine ks_lload dX3_multiply_190 rfl rfl ?_
  refine ks_lload dX3_multiply_192 rfl rfl ?_
  refine ks_lmulN dX3_multiply_194 rfl ?_
  refine ks_laddN dX3_multiply_195 rfl ?_
  refine ks_lload dX3_multiply_196 rfl rfl ?_
  refine ks_lload dX3_multiply_198 rfl rfl ?_
  refine ks_lmulN dX3_multiply_200 rfl ?_
  refine ks_laddN dX3_multiply_201 rfl ?_
  obtain ⟨c9, e_c9⟩ : ∃ c, a1 * b8 + (a2 * b7) + (a3 * b6) + (a4 * b5) + (a5 * b4) + (a6 * b3) + (a7 * b2) + (a8 * b1) = c := ⟨_, rfl⟩
  have L_c9 : c9 ≤ 2305843000623759368 := by
    rw [← e_c9]
    exact Nat.le_trans (Nat.add_le_add (Nat.add_le_add (Nat.add_le_add (Nat.add_le_add (Nat.add_le_add (Nat.add_le_add (Nat.add_le_add (Nat.mul_le_mul A1 B8) (Nat.mul_le_mul A2 B7)) (Nat.mul_le_mul A3 B6)) (Nat.mul_le_mul A4 B5)) (Nat.mul_le_mul A5 B4)) (Nat.mul_le_mul A6 B3)) (Nat.mul_le_mul A7 B2)) (Nat.mul_le_mul A8 B1)) (by decide)
  refine ks_tl (y := lN c9) (congrArg lN e_c9) ?_
  refine ks_lstore dX3_multiply_202 (by decide) rfl ?_
  refine ks_sub [(41, _), (0, _), (1, _), (2, _), (3, _), (4, _), (5, _), (7, _), (9, _), (11, _), (13, _), (15, _), (17, _), (19, _), (21, _), (23, _), (25, _), (27, _), (29, _), (31, _), (33, _), (35, _), (37, _), (39, _)] rfl ?_
  refine ks_lload dX3_multiply_204 rfl rfl ?_
  refine ks_bipush (x := nI 29) dX3_multiply_206 (by decide) rfl ?_
  refine ks_lushrN (k := 29) (by decide) (Nat.lt_of_le_of_lt L_c9 (by decide)) dX3_multiply_208 rfl ?_
  refine ks_lload dX3_multiply_209 rfl rfl ?_
  refine ks_lload dX3_multiply_211 rfl rfl ?_
  refine ks_lmulN dX3_multiply_213 rfl ?_
  refine ks_laddN dX3_multiply_214 rfl ?_
  refine ks_lload dX3_multiply_215 rfl rfl ?_
  refine ks_lload dX3_multiply_217 rfl rfl ?_
  refine ks_lmulN dX3_multiply_219 rfl ?_
  refine ks_laddN dX3_multiply_220 rfl ?_
  refine ks_lload dX3_multiply_221 rfl rfl ?_
  refine ks_lload dX3_multiply_223 rfl rfl ?_
  refine ks_lmulN dX3_multiply_225 rfl ?_
  refine ks_laddN dX3_multiply_226 rfl ?_
  refine ks_lload dX3_multiply_227 rfl rfl ?_
  refine ks_lload dX3_multiply_229 rfl rfl ?_
  refine ks_lmulN dX3_multiply_231 rfl ?_
  refine ks_laddN dX3_multiply_232 rfl ?_
  refine ks_lload dX3_multiply_233 rfl rfl ?_
  refine ks_lload dX3_multiply_235 rfl rfl ?_
  refine ks_lmulN dX3_multiply_237 rfl ?_
  refine ks_laddN dX3_multiply_238 rfl ?_
  refine ks_lload dX3_multiply_239 rfl rfl ?_
  refine ks_lload dX3_multiply_241 rfl rfl ?_
  refine ks_lmulN dX3_multiply_243 rfl ?_
  refine ks_laddN dX3_multiply_244 rfl ?_
  refine ks_lload dX3_multiply_245 rfl rfl ?_
  refine ks_lload dX3_multiply_247 rfl rfl ?_
  refine ks_lmulN dX3_multiply_249 rfl ?_
  refine ks_laddN dX3_multiply_250 rfl ?_
  obtain ⟨c10, e_c10⟩ : ∃ c, c9 / 2 ^ 29 + (a2 * b8) + (a3 * b7) + (a4 * b6) + (a5 * b5) + (a6 * b4) + (a7 * b3) + (a8 * b2) = c := ⟨_, rfl⟩
  have L_c10 : c10 ≤ 2017612629840756727 := by
    rw [← e_c10]
    exact Nat.le_trans (Nat.add_le_add (Nat.add_le_add (Nat.add_le_add (Nat.add_le_add (Nat.add_le_add (Nat.add_le_add (Nat.add_le_add (Nat.div_le_div_right (c := 2 ^ 29) L_c9) (Nat.mul_le_mul A2 B8)) (Nat.mul_le_mul A3 B7)) (Nat.mul_le_mul A4 B6)) (Nat.mul_le_mul A5 B5)) (Nat.mul_le_mul A6 B4)) (Nat.mul_le_mul A7 B3)) (Nat.mul_le_mul A8 B2)) (by decide)
  refine ks_tl (y := lN c10) (congrArg lN e_c10) ?_
  refine ks_lstore dX3_multiply_251 (by decide) rfl ?_
  refine ks_sub [(43, _), (0, _), (1, _), (2, _), (3, _), (4, _), (5, _), (7, _), (9, _), (11, _), (13, _), (15, _), (17, _), (19, _), (21, _), (23, _), (25, _), (27, _), (29, _), (31, _), (33, _), (35, _), (37, _), (39, _), (41, _)] rfl ?_
  refine ks_lload dX3_multiply_253 rfl rfl ?_
  refine ks_bipush (x := nI 29) dX3_multiply_255 (by decide) rfl ?_
  refine ks_lushrN (k := 29) (by decide) (Nat.lt_of_le_of_lt L_c10 (by decide)) dX3_multiply_257 rfl ?_
  refine ks_lload dX3_multiply_258 rfl rfl ?_
  refine ks_lload dX3_multiply_260 rfl rfl ?_
  refine ks_lmulN dX3_multiply_262 rfl ?_
  refine ks_laddN dX3_multiply_263 rfl ?_
  refine ks_lload dX3_multiply_264 rfl rfl ?_
  refine ks_lload dX3_multiply_266 rfl rfl ?_
  refine ks_lmulN dX3_multiply_268 rfl ?_
  refine ks_laddN dX3_multiply_269 rfl ?_
  refine ks_lload dX3_multiply_270 rfl rfl ?_
  refine ks_lload dX3_multiply_272 rfl rfl ?_
  refine ks_lmulN dX3_multiply_274 rfl ?_
  refine ks_laddN dX3_multiply_275 rfl ?_
  refine ks_lload dX3_multiply_276 rfl rfl ?_
  refine ks_lload dX3_multiply_278 rfl rfl ?_
  refine ks_lmulN dX3_multiply_280 rfl ?_
  refine ks_laddN dX3_multiply_281 rfl ?_
  refine ks_lload dX3_multiply_282 rfl rfl ?_
  refine ks_lload dX3_multiply_284 rfl rfl ?_
  refine ks_lmulN dX3_multiply_286 rfl ?_
  refine ks_laddN dX3_multiply_287 rfl ?_
  refine ks_lload dX3_multiply_288 rfl rfl ?_
  refine ks_lload dX3_multiply_290 rfl rfl ?_
  refine ks_lmulN dX3_multiply_292 rfl ?_
  refine ks_laddN dX3_multiply_293 rfl ?_
  obtain ⟨c11, e_c11⟩ : ∃ c, c10 / 2 ^ 29 + (a3 * b8) + (a4 * b7) + (a5 * b6) + (a6 * b5) + (a7 * b4) + (a8 * b3) = c := ⟨_, rfl⟩
  have L_c11 : c11 ≤ 1729382254225915903 := by
    rw [← e_c11]
    exact Nat.le_trans (Nat.add_le_add (Nat.add_le_add (Nat.add_le_add (Nat.add_le_add (Nat.add_le_add (Nat.add_le_add (Nat.div_le_div_right (c := 2 ^ 29) L_c10) (Nat.mul_le_mul A3 B8)) (Nat.mul_le_mul A4 B7)) (Nat.mul_le_mul A5 B6)) (Nat.mul_le_mul A6 B5)) (Nat.mul_le_mul A7 B4)) (Nat.mul_le_mul A8 B3)) (by decide)
  refine ks_tl (y := lN c11) (congrArg lN e_c11) ?_
  refine ks_lstore dX3_multiply_294 (by decide) rfl ?_
  refine ks_sub [(45, _), (0, _), (1, _), (2, _), (3, _), (4, _), (5, _), (7, _), (9, _), (11, _), (13, _), (15, _), (17, _), (19, _), (21, _), (23, _), (25, _), (27, _), (29, _), (31, _), (33, _), (35, _), (37, _), (39, _), (41, _), (43, _)] rfl ?_
  refine ks_lload dX3_multiply_296 rfl rfl ?_
  refine ks_bipush (x := nI 29) dX3_multiply_298 (by decide) rfl ?_
  refine ks_lushrN (k := 29) (by decide) (Nat.lt_of_le_of_lt L_c11 (by decide)) dX3_multiply_300 rfl ?_
  refine ks_lload dX3_multiply_301 rfl rfl ?_
  refine ks_lload dX3_multiply_303 rfl rfl ?_
  refine ks_lmulN dX3_multiply_305 rfl ?_
  refine ks_laddN dX3_multiply_306 rfl ?_
  refine ks_lload dX3_multiply_307 rfl rfl ?_
  refine ks_lload dX3_multiply_309 rfl rfl ?_
  refine ks_lmulN dX3_multiply_311 rfl ?_
  refine ks_laddN dX3_multiply_312 rfl ?_
  refine ks_lload dX3_multiply_313 rfl rfl ?_
  refine ks_lload dX3_multiply_315 rfl rfl ?_
  refine ks_lmulN dX3_multiply_317 rfl ?_
  refine ks_laddN dX3_multiply_318 rfl ?_
  refine ks_lload dX3_multiply_319 rfl rfl ?_
  refine ks_lload dX3_multiply_321 rfl rfl ?_
  refine ks_lmulN dX3_multiply_323 rfl ?_
  refine ks_laddN dX3_multiply_324 rfl ?_
  refine ks_lload dX3_multiply_325 rfl rfl ?_
  refine ks_lload dX3_multiply_327 rfl rfl ?_
  refine ks_lmulN dX3_multiply_329 rfl ?_
  refine ks_laddN dX3_multiply_330 rfl ?_
  obtain ⟨c12, e_c12⟩ : ∃ c, c11 / 2 ^ 29 + (a4 * b8) + (a5 * b7) + (a6 * b6) + (a7 * b5) + (a8 * b4) = c := ⟨_, rfl⟩
  have L_c12 : c12 ≤ 1441151878611075071 := by
    rw [← e_c12]
    exact Nat.le_trans (Nat.add_le_add (Nat.add_le_add (Nat.add_le_add (Nat.add_le_add (Nat.add_le_add (Nat.div_le_div_right (c := 2 ^ 29) L_c11) (Nat.mul_le_mul A4 B8)) (Nat.mul_le_mul A5 B7)) (Nat.mul_le_mul A6 B6)) (Nat.mul_le_mul A7 B5)) (Nat.mul_le_mul A8 B4)) (by decide)
  refine ks_tl (y := lN c12) (congrArg lN e_c12) ?_
  refine ks_lstore dX3_multiply_331 (by decide) rfl ?_
  refine ks_sub [(47, _), (0, _), (1, _), (2, _), (3, _), (4, _), (5, _), (7, _), (9, _), (11, _), (13, _), (15, _), (17, _), (19, _), (21, _), (23, _), (25, _), (27, _), (29, _), (31, _), (33, _), (35, _), (37, _), (39, _), (41, _), (43, _), (45, _)] rfl ?_
  refine ks_lload dX3_multiply_333 rfl rfl ?_
  refine ks_bipush (x := nI 29) dX3_multiply_335 (by decide) rfl ?_
  refine ks_lushrN (k := 29) (by decide) (Nat.lt_of_le_of_lt L_c12 (by decide)) dX3_multiply_337 rfl ?_
  refine ks_lload dX3_multiply_338 rfl rfl ?_
  refine ks_lload dX3_multiply_340 rfl rfl ?_
  refine ks_lmulN dX3_multiply_342 rfl ?_
  refine ks_laddN dX3_multiply_343 rfl ?_
  refine ks_lload dX3_multiply_344 rfl rfl ?_
  refine ks_lload dX3_multiply_346 rfl rfl ?_
  refine ks_lmulN dX3_multiply_348 rfl ?_
  refine ks_laddN dX3_multiply_349 rfl ?_
  refine ks_lload dX3_multiply_350 rfl rfl ?_
  refine ks_lload dX3_multiply_352 rfl rfl ?_
  refine ks_lmulN dX3_multiply_354 rfl ?_
  refine ks_laddN dX3_multiply_355 rfl ?_
  refine ks_lload dX3_multiply_356 rfl rfl ?_
  refine ks_lload dX3_multiply_358 rfl rfl ?_
  refine ks_lmulN dX3_multiply_360 rfl ?_
  refine ks_laddN dX3_multiply_361 rfl ?_
  obtain ⟨c13, e_c13⟩ : ∃ c, c12 / 2 ^ 29 + (a5 * b8) + (a6 * b7) + (a7 * b6) + (a8 * b5) = c := ⟨_, rfl⟩
  have L_c13 : c13 ≤ 1152921502996234239 := by
    rw [← e_c13]
    exact Nat.le_trans (Nat.add_le_add (Nat.add_le_add (Nat.add_le_add (Nat.add_le_add (Nat.div_le_div_right (c := 2 ^ 29) L_c12) (Nat.mul_le_mul A5 B8)) (Nat.mul_le_mul A6 B7)) (Nat.mul_le_mul A7 B6)) (Nat.mul_le_mul A8 B5)) (by decide)
  refine ks_tl (y := lN c13) (congrArg lN e_c13) ?_
  refine ks_lstore dX3_multiply_362 (by decide) rfl ?_
  refine ks_sub [(49, _), (0, _), (1, _), (2, _), (3, _), (4, _), (5, _), (7, _), (9, _), (11, _), (13, _), (15, _), (17, _), (19, _), (21, _), (23, _), (25, _), (27, _), (29, _), (31, _), (33, _), (35, _), (37, _), (39, _), (41, _), (43, _), (45, _), (47, _)] rfl ?_
  refine ks_lload dX3_multiply_364 rfl rfl ?_
  refine ks_bipush (x := nI 29) dX3_multiply_366 (by decide) rfl ?_
  refine ks_lushrN (k := 29) (by decide) (Nat.lt_of_le_of_lt L_c13 (by decide)) dX3_multiply_368 rfl ?_
  refine ks_lload dX3_multiply_369 rfl rfl ?_
  refine ks_lload dX3_multiply_371 rfl rfl ?_
  refine ks_lmulN dX3_multiply_373 rfl ?_
  refine ks_laddN dX3_multiply_374 rfl ?_
  refine ks_lload dX3_multiply_375 rfl rfl ?_
  refine ks_lload dX3_multiply_377 rfl rfl ?_
  refine ks_lmulN dX3_multiply_379 rfl ?_
  refine ks_laddN dX3_multiply_380 rfl ?_
  refine ks_lload dX3_multiply_381 rfl rfl ?_
  refine ks_lload dX3_multiply_383 rfl rfl ?_
  refine ks_lmulN dX3_multiply_385 rfl ?_
  refine ks_laddN dX3_multiply_386 rfl ?_
  obtain ⟨c14, e_c14⟩ : ∃ c, c13 / 2 ^ 29 + (a6 * b8) + (a7 * b7) + (a8 * b6) = c := ⟨_, rfl⟩
  have L_c14 : c14 ≤ 864691127381393407 := by
    rw [← e_c14]
    exact Nat.le_trans (Nat.add_le_add (Nat.add_le_add (Nat.add_le_add (Nat.div_le_div_right (c := 2 ^ 29) L_c13) (Nat.mul_le_mul A6 B8)) (Nat.mul_le_mul A7 B7)) (Nat.mul_le_mul A8 B6)) (by decide)
  refine ks_tl (y := lN c14) (congrArg lN e_c14) ?_
  refine ks_lstore dX3_multiply_387 (by decide) rfl ?_
  refine ks_sub [(51, _), (0, _), (1, _), (2, _), (3, _), (4, _), (5, _), (7, _), (9, _), (11, _), (13, _), (15, _), (17, _), (19, _), (21, _), (23, _), (25, _), (27, _), (29, _), (31, _), (33, _), (35, _), (37, _), (39, _), (41, _), (43, _), (45, _), (47, _), (49, _)] rfl ?_
  refine ks_lload dX3_multiply_389 rfl rfl ?_
  refine ks_bipush (x := nI 29) dX3_multiply_391 (by decide) rfl ?_
  refine ks_lushrN (k := 29) (by decide) (Nat.lt_of_le_of_lt L_c14 (by decide)) dX3_multiply_393 rfl ?_
  refine ks_lload dX3_multiply_394 rfl rfl ?_
  refine ks_lload dX3_multiply_396 rfl rfl ?_
  refine ks_lmulN dX3_multiply_398 rfl ?_
  refine ks_laddN dX3_multiply_399 rfl ?_
  refine ks_lload dX3_multiply_400 rfl rfl ?_
  refine ks_lload dX3_multiply_402 rfl rfl ?_
  refine ks_lmulN dX3_multiply_404 rfl ?_
  refine ks_laddN dX3_multiply_405 rfl ?_
  obtain ⟨c15, e_c15⟩ : ∃ c, c14 / 2 ^ 29 + (a7 * b8) + (a8 * b7) = c := ⟨_, rfl⟩
  have L_c15 : c15 ≤ 576460751766552575 := by
    rw [← e_c15]
    exact Nat.le_trans (Nat.add_le_add (Nat.add_le_add (Nat.div_le_div_right (c := 2 ^ 29) L_c14) (Nat.mul_le_mul A7 B8)) (Nat.mul_le_mul A8 B7)) (by decide)
  refine ks_tl (y := lN c15) (congrArg lN e_c15) ?_
  refine ks_lstore dX3_multiply_406 (by decide) rfl ?_
  refine ks_sub [(53, _), (0, _), (1, _), (2, _), (3, _), (4, _), (5, _), (7, _), (9, _), (11, _), (13, _), (15, _), (17, _), (19, _), (21, _), (23, _), (25, _), (27, _), (29, _), (31, _), (33, _), (35, _), (37, _), (39, _), (41, _), (43, _), (45, _), (47, _), (49, _), (51, _)] rfl ?_
  refine ks_lload dX3_multiply_408 rfl rfl ?_
  refine ks_bipush (x := nI 29) dX3_multiply_410 (by decide) rfl ?_
  refine ks_lushrN (k := 29) (by decide) (Nat.lt_of_le_of_lt L_c15 (by decide)) dX3_multiply_412 rfl ?_
  refine ks_lload dX3_multiply_413 rfl rfl ?_
  refine ks_lload dX3_multiply_415 rfl rfl ?_
  refine ks_lmulN dX3_multiply_417 rfl ?_
  refine ks_laddN dX3_multiply_418 rfl ?_
  obtain ⟨c16, e_c16⟩ : ∃ c, c15 / 2 ^ 29 + (a8 * b8) = c := ⟨_, rfl⟩
  have L_c16 : c16 ≤ 288230376151711743 := by
    rw [← e_c16]
    exact Nat.le_trans (Nat.add_le_add (Nat.div_le_div_right (c := 2 ^ 29) L_c15) (Nat.mul_le_mul A8 B8)) (by decide)
  refine ks_tl (y := lN c16) (congrArg lN e_c16) ?_
  refine ks_lstore dX3_multiply_419 (by decide) rfl ?_
  refine ks_sub [(55, _), (0, _), (1, _), (2, _), (3, _), (4, _), (5, _), (7, _), (9, _), (11, _), (13, _), (15, _), (17, _), (19, _), (21, _), (23, _), (25, _), (27, _), (29, _), (31, _), (33, _), (35, _), (37, _), (39, _), (41, _), (43, _), (45, _), (47, _), (49, _), (51, _), (53, _)] rfl ?_
  refine ks_lload dX3_multiply_421 rfl rfl ?_
  refine ks_ldc2 dX3_multiply_423 kx_506 rfl ?_
  refine ks_tl (y := lN 536870911) rfl ?_
  refine ks_landN (k := 29) (p := 536870912) (by decide) (by decide) (by decide) (Nat.lt_of_le_of_lt L_c9 (by decide)) dX3_multiply_426 rfl ?_
  obtain ⟨h0, e_h0⟩ : ∃ c, c9 % 536870912 = c := ⟨_, rfl⟩
  have L_h0 : h0 ≤ 536870911 := by
    rw [← e_h0]
    exact Nat.le_trans (Nat.le_of_lt_succ (Nat.mod_lt c9 (show 0 < 536870912 by decide))) (by decide)
  refine ks_tl (y := lN h0) (congrArg lN e_h0) ?_
  refine ks_lstore dX3_multiply_427 (by decide) rfl ?_
  refine ks_sub [(57, _), (0, _), (1, _), (2, _), (3, _), (4, _), (5, _), (7, _), (9, _), (11, _), (13, _), (15, _), (17, _), (19, _), (21, _), (23, _), (25, _), (27, _), (29, _), (31, _), (33, _), (35, _), (37, _), (39, _), (41, _), (43, _), (45, _), (47, _), (49, _), (51, _), (53, _), (55, _)] rfl ?_
  refine ks_lload dX3_multiply_429 rfl rfl ?_
  refine ks_ldc2 dX3_multiply_431 kx_506 rfl ?_
  refine ks_tl (y := lN 536870911) rfl ?_
  refine ks_landN (k := 29) (p := 536870912) (by decide) (by decide) (by decide) (Nat.lt_of_le_of_lt L_c10 (by decide)) dX3_multiply_434 rfl ?_
  obtain ⟨h1, e_h1⟩ : ∃ c, c10 % 536870912 = c := ⟨_, rfl⟩
  have L_h1 : h1 ≤ 536870911 := by
    rw [← e_h1]
    exact Nat.le_trans (Nat.le_of_lt_succ (Nat.mod_lt c10 (show 0 < 536870912 by decide))) (by decide)
  refine ks_tl (y := lN h1) (congrArg lN e_h1) ?_
  refine ks_lstore dX3_multiply_435 (by decide) rfl ?_
  refine ks_sub [(59, _), (0, _), (1, _), (2, _), (3, _), (4, _), (5, _), (7, _), (9, _), (11, _), (13, _), (15, _), (17, _), (19, _), (21, _), (23, _), (25, _), (27, _), (29, _), (31, _), (33, _), (35, _), (37, _), (39, _), (41, _), (43, _), (45, _), (47, _), (49, _), (51, _), (53, _), (55, _), (57, _)] rfl ?_
  refine ks_lload dX3_multiply_437 rfl rfl ?_
  refine ks_ldc2 dX3_multiply_439 kx_506 rfl ?_
  refine ks_tl (y := lN 536870911) rfl ?_
  refine ks_landN (k := 29) (p := 536870912) (by decide) (by decide) (by decide) (Nat.lt_of_le_of_lt L_c11 (by decide)) dX3_multiply_442 rfl ?_
  obtain ⟨h2, e_h2⟩ : ∃ c, c11 % 536870912 = c := ⟨_, rfl⟩
  have L_h2 : h2 ≤ 536870911 := by
    rw [← e_h2]
    exact Nat.le_trans (Nat.le_of_lt_succ (Nat.mod_lt c11 (show 0 < 536870912 by decide))) (by decide)
  refine ks_tl (y := lN h2) (congrArg lN e_h2) ?_
  refine ks_lstore dX3_multiply_443 (by decide) rfl ?_
  refine ks_sub [(61, _), (0, _), (1, _), (2, _), (3, _), (4, _), (5, _), (7, _), (9, _), (11, _), (13, _), (15, _), (17, _), (19, _), (21, _), (23, _), (25, _), (27, _), (29, _), (31, _), (33, _), (35, _), (37, _), (39, _), (41, _), (43, _), (45, _), (47, _), (49, _), (51, _), (53, _), (55, _), (57, _), (59, _)] rfl ?_
  refine ks_lload dX3_multiply_445 rfl rfl ?_
  refine ks_ldc2 dX3_multiply_447 kx_506 rfl ?_
  refine ks_tl (y := lN 536870911) rfl ?_
  refine ks_landN (k := 29) (p := 536870912) (by decide) (by decide) (by decide) (Nat.lt_of_le_of_lt L_c12 (by decide)) dX3_multiply_450 rfl ?_
  obtain ⟨h3, e_h3⟩ : ∃ c, c12 % 536870912 = c := ⟨_, rfl⟩
  have L_h3 : h3 ≤ 536870911 := by
    rw [← e_h3]
    exact Nat.le_trans (Nat.le_of_lt_succ (Nat.mod_lt c12 (show 0 < 536870912 by decide))) (by decide)
  refine ks_tl (y := lN h3) (congrArg lN e_h3) ?_
  refine ks_lstore dX3_multiply_451 (by decide) rfl ?_
  refine ks_sub [(63, _), (0, _), (1, _), (2, _), (3, _), (4, _), (5, _), (7, _), (9, _), (11, _), (13, _), (15, _), (17, _), (19, _), (21, _), (23, _), (25, _), (27, _), (29, _), (31, _), (33, _), (35, _), (37, _), (39, _), (41, _), (43, _), (45, _), (47, _), (49, _), (51, _), (53, _), (55, _), (57, _), (59, _), (61, _)] rfl ?_
  refine ks_lload dX3_multiply_453 rfl rfl ?_
  refine ks_ldc2 dX3_multiply_455 kx_506 rfl ?_
  refine ks_tl (y := lN 536870911) rfl ?_
  refine ks_landN (k := 29) (p := 536870912) (by decide) (by decide) (by decide) (Nat.lt_of_le_of_lt L_c13 (by decide)) dX3_multiply_458 rfl ?_
  obtain ⟨h4, e_h4⟩ : ∃ c, c13 % 536870912 = c := ⟨_, rfl⟩
  have L_h4 : h4 ≤ 536870911 := by
    rw [← e_h4]
    exact Nat.le_trans (Nat.le_of_lt_succ (Nat.mod_lt c13 (show 0 < 536870912 by decide))) (by decide)
  refine ks_tl (y := lN h4) (congrArg lN e_h4) ?_
  refine ks_lstore dX3_multiply_459 (by decide) rfl ?_
  refine ks_sub [(65, _), (0, _), (1, _), (2, _), (3, _), (4, _), (5, _), (7, _), (9, _), (11, _), (13, _), (15, _), (17, _), (19, _), (21, _), (23, _), (25, _), (27, _), (29, _), (31, _), (33, _), (35, _), (37, _), (39, _), (41, _), (43, _), (45, _), (47, _), (49, _), (51, _), (53, _), (55, _), (57, _), (59, _), (61, _), (63, _)] rfl ?_
  refine ks_lload dX3_multiply_461 rfl rfl ?_
  refine ks_ldc2 dX3_multiply_463 kx_506 rfl ?_
  refine ks_tl (y := lN 536870911) rfl ?_
  refine ks_landN (k := 29) (p := 536870912) (by decide) (by decide) (by decide) (Nat.lt_of_le_of_lt L_c14 (by decide)) dX3_multiply_466 rfl ?_
  obtain ⟨h5, e_h5⟩ : ∃ c, c14 % 536870912 = c := ⟨_, rfl⟩
  have L_h5 : h5 ≤ 536870911 := by
    rw [← e_h5]
    exact Nat.le_trans (Nat.le_of_lt_succ (Nat.mod_lt c14 (show 0 < 536870912 by decide))) (by decide)
  refine ks_tl (y := lN h5) (congrArg lN e_h5) ?_
  refine ks_lstore dX3_multiply_467 (by decide) rfl ?_
  refine ks_sub [(67, _), (0, _), (1, _), (2, _), (3, _), (4, _), (5, _), (7, _), (9, _), (11, _), (13, _), (15, _), (17, _), (19, _), (21, _), (23, _), (25, _), (27, _), (29, _), (31, _), (33, _), (35, _), (37, _), (39, _), (41, _), (43, _), (45, _), (47, _), (49, _), (51, _), (53, _), (55, _), (57, _), (59, _), (61, _), (63, _), (65, _)] rfl ?_
  refine ks_lload dX3_multiply_469 rfl rfl ?_
  refine ks_ldc2 dX3_multiply_471 kx_506 rfl ?_
  refine ks_tl (y := lN 536870911) rfl ?_
  refine ks_landN (k := 29) (p := 536870912) (by decide) (by decide) (by decide) (Nat.lt_of_le_of_lt L_c15 (by decide)) dX3_multiply_474 rfl ?_
  obtain ⟨h6, e_h6⟩ : ∃ c, c15 % 536870912 = c := ⟨_, rfl⟩
  have L_h6 : h6 ≤ 536870911 := by
    rw [← e_h6]
    exact Nat.le_trans (Nat.le_of_lt_succ (Nat.mod_lt c15 (show 0 < 536870912 by decide))) (by decide)
  refine ks_tl (y := lN h6) (congrArg lN e_h6) ?_
  refine ks_lstore dX3_multiply_475 (by decide) rfl ?_
  refine ks_sub [(69, _), (0, _), (1, _), (2, _), (3, _), (4, _), (5, _), (7, _), (9, _), (11, _), (13, _), (15, _), (17, _), (19, _), (21, _), (23, _), (25, _), (27, _), (29, _), (31, _), (33, _), (35, _), (37, _), (39, _), (41, _), (43, _), (45, _), (47, _), (49, _), (51, _), (53, _), (55, _), (57, _), (59, _), (61, _), (63, _), (65, _), (67, _)] rfl ?_
  refine ks_lload dX3_multiply_477 rfl rfl ?_
  refine ks_ldc2 dX3_multiply_479 kx_506 rfl ?_
  refine ks_tl (y := lN 536870911) rfl ?_
  refine ks_landN (k := 29) (p := 536870912) (by decide) (by decide) (by decide) (Nat.lt_of_le_of_lt L_c16 (by decide)) dX3_multiply_482 rfl ?_
  obtain ⟨h7, e_h7⟩ : ∃ c, c16 % 536870912 = c := ⟨_, rfl⟩
  have L_h7 : h7 ≤ 536870911 := by
    rw [← e_h7]
    exact Nat.le_trans (Nat.le_of_lt_succ (Nat.mod_lt c16 (show 0 < 536870912 by decide))) (by decide)
  refine ks_tl (y := lN h7) (congrArg lN e_h7) ?_
  refine ks_lstore dX3_multiply_483 (by decide) rfl ?_
  refine ks_sub [(71, _), (0, _), (1, _), (2, _), (3, _), (4, _), (5, _), (7, _), (9, _), (11, _), (13, _), (15, _), (17, _), (19, _), (21, _), (23, _), (25, _), (27, _), (29, _), (31, _), (33, _), (35, _), (37, _), (39, _), (41, _), (43, _), (45, _), (47, _), (49, _), (51, _), (53, _), (55, _), (57, _), (59, _), (61, _), (63, _), (65, _), (67, _), (69, _)] rfl ?_
  refine ks_lload dX3_multiply_485 rfl rfl ?_
  refine ks_bipush (x := nI 29) dX3_multiply_487 (by decide) rfl ?_
  refine ks_lushrN (k := 29) (by decide) (Nat.lt_of_le_of_lt L_c16 (by decide)) dX3_multiply_489 rfl ?_
  obtain ⟨h8, e_h8⟩ : ∃ c, c16 / 2 ^ 29 = c := ⟨_, rfl⟩
  have L_h8 : h8 ≤ 536870911 := by
    rw [← e_h8]
    exact Nat.le_trans (Nat.div_le_div_right (c := 2 ^ 29) L_c16) (by decide)
  refine ks_tl (y := lN h8) (congrArg lN e_h8) ?_
  refine ks_lstore dX3_multiply_490 (by decide) rfl ?_
  refine ks_sub [(73, _), (0, _), (1, _), (2, _), (3, _), (4, _), (5, _), (7, _), (9, _), (11, _), (13, _), (15, _), (17, _), (19, _), (21, _), (23, _), (25, _), (27, _), (29, _), (31, _), (33, _), (35, _), (37, _), (39, _), (41, _), (43, _), (45, _), (47, _), (49, _), (51, _), (53, _), (55, _), (57, _), (59, _), (61, _), (63, _), (65, _), (67, _), (69, _), (71, _)] rfl ?_
  refine ks_lload dX3_multiply_492 rfl rfl ?_
  refine ks_lload dX3_multiply_494 rfl rfl ?_
  refine ks_lmulN dX3_multiply_496 rfl ?_
  refine ks_ldc2 dX3_multiply_497 kx_507 rfl ?_
  refine ks_tl (y := lN 31264) rfl ?_
  refine ks_lload dX3_multiply_500 rfl rfl ?_
  refine ks_lmulN dX3_multiply_502 rfl ?_
  refine ks_laddN dX3_multiply_503 rfl ?_
  refine ks_ldc2 dX3_multiply_504 kx_508 rfl ?_
  refine ks_tl (y := lN 8003584) rfl ?_
  refine ks_lload dX3_multiply_507 rfl rfl ?_
  refine ks_lmulN dX3_multiply_509 rfl ?_
  refine ks_laddN dX3_multiply_510 rfl ?_
  obtain ⟨q0, e_q0⟩ : ∃ c, a0 * b0 + (31264 * h0) + (8003584 * h8) = c := ⟨_, rfl⟩
  have L_q0 : q0 ≤ 292544051243476449 := by
    rw [← e_q0]
    exact Nat.le_trans (Nat.add_le_add (Nat.add_le_add (Nat.mul_le_mul A0 B0) (Nat.mul_le_mul_left 31264 L_h0)) (Nat.mul_le_mul_left 8003584 L_h8)) (by decide)
  refine ks_tl (y := lN q0) (congrArg lN e_q0) ?_
  refine ks_lstore dX3_multiply_511 (by decide) rfl ?_
  refine ks_sub [(75, _), (0, _), (1, _), (2, _), (3, _), (4, _), (5, _), (7, _), (9, _), (11, _), (13, _), (15, _), (17, _), (19, _), (21, _), (23, _), (25, _), (27, _), (29, _), (31, _), (33, _), (35, _), (37, _), (39, _), (41, _), (43, _), (45, _), (47, _), (49, _), (51, _), (53, _), (55, _), (57, _), (59, _), (61, _), (63, _), (65, _), (67, _), (69, _), (71, _), (73, _)] rfl ?_
  refine ks_lload dX3_multiply_513 rfl rfl ?_
  refine ks_ldc2 dX3_multiply_515 kx_506 rfl ?_
  refine ks_tl (y := lN 536870911) rfl ?_
  refine ks_landN (k := 29) (p := 536870912) (by decide) (by decide) (by decide) (Nat.lt_of_le_of_lt L_q0 (by decide)) dX3_multiply_518 rfl ?_
  obtain ⟨d0, e_d0⟩ : ∃ c, q0 % 536870912 = c := ⟨_, rfl⟩
  have L_d0 : d0 ≤ 536870911 := by
    rw [← e_d0]
    exact Nat.le_trans (Nat.le_of_lt_succ (Nat.mod_lt q0 (show 0 < 536870912 by decide))) (by decide)
  refine ks_tl (y := lN d0) (congrArg lN e_d0) ?_
  refine ks_lstore dX3_multiply_519 (by decide) rfl ?_
  refine ks_sub [(77, _), (0, _), (1, _), (2, _), (3, _), (4, _), (5, _), (7, _), (9, _), (11, _), (13, _), (15, _), (17, _), (19, _), (21, _), (23, _), (25, _), (27, _), (29, _), (31, _), (33, _), (35, _), (37, _), (39, _), (41, _), (43, _), (45, _), (47, _), (49, _), (51, _), (53, _), (55, _), (57, _), (59, _), (61, _), (63, _), (65, _), (67, _), (69, _), (71, _), (73, _), (75, _)] rfl ?_
  refine ks_lload dX3_multiply_521 rfl rfl ?_
  refine ks_bipush (x := nI 29) dX3_multiply_523 (by decide) rfl ?_
  refine ks_lushrN (k := 29) (by decide) (Nat.lt_of_le_of_lt L_q0 (by decide)) dX3_multiply_525 rfl ?_
  refine ks_lload dX3_multiply_526 rfl rfl ?_
  refine ks_lload dX3_multiply_528 rfl rfl ?_
  refine ks_lmulN dX3_multiply_530 rfl ?_
  refine ks_laddN dX3_multiply_531 rfl ?_
  refine ks_lload dX3_multiply_532 rfl rfl ?_
  refine ks_lload dX3_multiply_534 rfl rfl ?_
  refine ks_lmulN dX3_multiply_536 rfl ?_
  refine ks_laddN dX3_multiply_537 rfl ?_
  refine ks_ldc2 dX3_multiply_538 kx_507 rfl ?_
  refine ks_tl (y := lN 31264) rfl ?_
  refine ks_lload dX3_multiply_541 rfl rfl ?_
  refine ks_lmulN dX3_multiply_543 rfl ?_
  refine ks_laddN dX3_multiply_544 rfl ?_
  refine ks_ldc2 dX3_multiply_545 kx_509 rfl ?_
  refine ks_tl (y := lN 256) rfl ?_
  refine ks_lload dX3_multiply_548 rfl rfl ?_
  refine ks_lmulN dX3_multiply_550 rfl ?_
  refine ks_laddN dX3_multiply_551 rfl ?_
  refine ks_ldc2 dX3_multiply_552 kx_510 rfl ?_
  refine ks_tl (y := lN 65536) rfl ?_
  refine ks_lload dX3_multiply_555 rfl rfl ?_
  refine ks_lmulN dX3_multiply_557 rfl ?_
  refine ks_laddN dX3_multiply_558 rfl ?_
  obtain ⟨q1, e_q1⟩ : ∃ c, q0 / 2 ^ 29 + (a0 * b1) + (a1 * b0) + (31264 * h1) + (256 * h0) + (65536 * h8) = c := ⟨_, rfl⟩
  have L_q1 : q1 ≤ 576512857243983615 := by
    rw [← e_q1]
    exact Nat.le_trans (Nat.add_le_add (Nat.add_le_add (Nat.add_le_add (Nat.add_le_add (Nat.add_le_add (Nat.div_le_div_right (c := 2 ^ 29) L_q0) (Nat.mul_le_mul A0 B1)) (Nat.mul_le_mul A1 B0)) (Nat.mul_le_mul_left 31264 L_h1)) (Nat.mul_le_mul_left 256 L_h0)) (Nat.mul_le_mul_left 65536 L_h8)) (by decide)
  refine ks_tl (y := lN q1) (congrArg lN e_q1) ?_
  refine ks_lstore dX3_multiply_559 (by decide) rfl ?_
  refine ks_sub [(75, _), (0, _), (1, _), (2, _), (3, _), (4, _), (5, _), (7, _), (9, _), (11, _), (13, _), (15, _), (17, _), (19, _), (21, _), (23, _), (25, _), (27, _), (29, _), (31, _), (33, _), (35, _), (37, _), (39, _), (41, _), (43, _), (45, _), (47, _), (49, _), (51, _), (53, _), (55, _), (57, _), (59, _), (61, _), (63, _), (65, _), (67, _), (69, _), (71, _), (73, _), (77, _)] rfl ?_
  refine ks_lload dX3_multiply_561 rfl rfl ?_
  refine ks_ldc2 dX3_multiply_563 kx_506 rfl ?_
  refine ks_tl (y := lN 536870911) rfl ?_
  refine ks_landN (k := 29) (p := 536870912) (by decide) (by decide) (by decide) (Nat.lt_of_le_of_lt L_q1 (by decide)) dX3_multiply_566 rfl ?_
  obtain ⟨d1, e_d1⟩ : ∃ c, q1 % 536870912 = c := ⟨_, rfl⟩
  have L_d1 : d1 ≤ 536870911 := by
    rw [← e_d1]
    exact Nat.le_trans (Nat.le_of_lt_succ (Nat.mod_lt q1 (show 0 < 536870912 by decide))) (by decide)
  refine ks_tl (y := lN d1) (congrArg lN e_d1) ?_
  refine ks_lstore dX3_multiply_567 (by decide) rfl ?_
  refine ks_sub [(79, _), (0, _), (1, _), (2, _), (3, _), (4, _), (5, _), (7, _), (9, _), (11, _), (13, _), (15, _), (17, _), (19, _), (21, _), (23, _), (25, _), (27, _), (29, _), (31, _), (33, _), (35, _), (37, _), (39, _), (41, _), (43, _), (45, _), (47, _), (49, _), (51, _), (53, _), (55, _), (57, _), (59, _), (61, _), (63, _), (65, _), (67, _), (69, _), (71, _), (73, _), (75, _), (77, _)] rfl ?_
  refine ks_lload dX3_multiply_569 rfl rfl ?_
  refine ks_bipush (x := nI 29) dX3_multiply_571 (by decide) rfl ?_
  refine ks_lushrN (k := 29) (by decide) (Nat.lt_of_le_of_lt L_q1 (by decide)) dX3_multiply_573 rfl ?_
  refine ks_lload dX3_multiply_574 rfl rfl ?_
  refine ks_lload dX3_multiply_576 rfl rfl ?_
  refine ks_lmulN dX3_multiply_578 rfl ?_
  refine ks_laddN dX3_multiply_579 rfl ?_
  refine ks_lload dX3_multiply_580 rfl rfl ?_
  refine ks_lload dX3_multiply_582 rfl rfl ?_
  refine ks_lmulN dX3_multiply_584 rfl ?_
  refine ks_laddN dX3_multiply_585 rfl ?_
  refine ks_lload dX3_multiply_586 rfl rfl ?_
  refine ks_lload dX3_multiply_588 rfl rfl ?_
  refine ks_lmulN dX3_multiply_590 rfl ?_
  refine ks_laddN dX3_multiply_591 rfl ?_
  refine ks_ldc2 dX3_multiply_592 kx_507 rfl ?_
  refine ks_tl (y := lN 31264) rfl ?_
  refine ks_lload dX3_multiply_595 rfl rfl ?_
  refine ks_lmulN dX3_multiply_597 rfl ?_
  refine ks_laddN dX3_multiply_598 rfl ?_
  refine ks_ldc2 dX3_multiply_599 kx_509 rfl ?_
  refine ks_tl (y := lN 256) rfl ?_
  refine ks_lload dX3_multiply_602 rfl rfl ?_
  refine ks_lmulN dX3_multiply_604 rfl ?_
  refine ks_laddN dX3_multiply_605 rfl ?_
  obtain ⟨q2, e_q2⟩ : ∃ c, q1 / 2 ^ 29 + (a0 * b2) + (a1 * b1) + (a2 * b0) + (31264 * h2) + (256 * h1) = c := ⟨_, rfl⟩
  have L_q2 : q2 ≤ 864708048478863360 := by
    rw [← e_q2]
    exact Nat.le_trans (Nat.add_le_add (Nat.add_le_add (Nat.add_le_add (Nat.add_le_add (Nat.add_le_add (Nat.div_le_div_right (c := 2 ^ 29) L_q1) (Nat.mul_le_mul A0 B2)) (Nat.mul_le_mul A1 B1)) (Nat.mul_le_mul A2 B0)) (Nat.mul_le_mul_left 31264 L_h2)) (Nat.mul_le_mul_left 256 L_h1)) (by decide)
  refine ks_tl (y := lN q2) (congrArg lN e_q2) ?_
  refine ks_lstore dX3_multiply_606 (by decide) rfl ?_
  refine ks_sub [(75, _), (0, _), (1, _), (2, _), (3, _), (4, _), (5, _), (7, _), (9, _), (11, _), (13, _), (15, _), (17, _), (19, _), (21, _), (23, _), (25, _), (27, _), (29, _), (31, _), (33, _), (35, _), (37, _), (39, _), (41, _), (43, _), (45, _), (47, _), (49, _), (51, _), (53, _), (55, _), (57, _), (59, _), (61, _), (63, _), (65, _), (67, _), (69, _), (71, _), (73, _), (77, _), (79, _)] rfl ?_
  refine ks_aload dX3_multiply_608 rfl rfl ?_
  refine ks_iload_n dX3_multiply_610 rfl rfl ?_
  refine ks_iconst (x := nI 2) dX3_multiply_611 (by decide) rfl ?_
  refine ks_addN dX3_multiply_612 rfl ?_
  refine ks_lload dX3_multiply_613 rfl rfl ?_
  refine ks_ldc2 dX3_multiply_615 kx_506 rfl ?_
  refine ks_tl (y := lN 536870911) rfl ?_
  refine ks_landN (k := 29) (p := 536870912) (by decide) (by decide) (by decide) (Nat.lt_of_le_of_lt L_q2 (by decide)) dX3_multiply_618 rfl ?_
  obtain ⟨d2, e_d2⟩ : ∃ c, q2 % 536870912 = c := ⟨_, rfl⟩
  have L_d2 : d2 ≤ 536870911 := by
    rw [← e_d2]
    exact Nat.le_trans (Nat.le_of_lt_succ (Nat.mod_lt q2 (show 0 < 536870912 by decide))) (by decide)
  refine ks_tl (y := lN d2) (congrArg lN e_d2) ?_
  refine ks_lastNN (i := 9 * o + 2) (v := d2) (by rw [layF_0]; exact hF.2.1 : S.2.2 16 = some (kL 945 (layF R o (dL (R o))))) (by omega) (by decide) dX3_multiply_619 rfl ?_
  refine ks_tS (by rw [layF_up _ _ _ _ (by decide)]) ?_
  refine ks_lload dX3_multiply_620 rfl rfl ?_
  refine ks_bipush (x := nI 29) dX3_multiply_622 (by decide) rfl ?_
  refine ks_lushrN (k := 29) (by decide) (Nat.lt_of_le_of_lt L_q2 (by decide)) dX3_multiply_624 rfl ?_
  refine ks_lload dX3_multiply_625 rfl rfl ?_
  refine ks_lload dX3_multiply_627 rfl rfl ?_
  refine ks_lmulN dX3_multiply_629 rfl ?_
  refine ks_laddN dX3_multiply_630 rfl ?_
  refine ks_lload dX3_multiply_631 rfl rfl ?_
  refine ks_lload dX3_multiply_633 rfl rfl ?_
  refine ks_lmulN dX3_multiply_635 rfl ?_
  refine ks_laddN dX3_multiply_636 rfl ?_
  refine ks_lload dX3_multiply_637 rfl rfl ?_
  refine ks_lload dX3_multiply_639 rfl rfl ?_
  refine ks_lmulN dX3_multiply_641 rfl ?_
  refine ks_laddN dX3_multiply_642 rfl ?_
  refine ks_lload dX3_multiply_643 rfl rfl ?_
  refine ks_lload dX3_multiply_645 rfl rfl ?_
  refine ks_lmulN dX3_multiply_647 rfl ?_
  refine ks_laddN dX3_multiply_648 rfl ?_
  refine ks_ldc2 dX3_multiply_649 kx_507 rfl ?_
  refine ks_tl (y := lN 31264) rfl ?_
  refine ks_lload dX3_multiply_652 rfl rfl ?_
  refine ks_lmulN dX3_multiply_654 rfl ?_
  refine ks_laddN dX3_multiply_655 rfl ?_
  refine ks_ldc2 dX3_multiply_656 kx_509 rfl ?_
  refine ks_tl (y := lN 256) rfl ?_
  refine ks_lload dX3_multiply_659 rfl rfl ?_
  refine ks_lmulN dX3_multiply_661 rfl ?_
  refine ks_laddN dX3_multiply_662 rfl ?_
  obtain ⟨q3, e_q3⟩ : ∃ c, q2 / 2 ^ 29 + (a0 * b3) + (a1 * b2) + (a2 * b1) + (a3 * b0) + (31264 * h3) + (256 * h2) = c := ⟨_, rfl⟩
  have L_q3 : q3 ≤ 1152938424093638656 := by
    rw [← e_q3]
    exact Nat.le_trans (Nat.add_le_add (Nat.add_le_add (Nat.add_le_add (Nat.add_le_add (Nat.add_le_add (Nat.add_le_add (Nat.div_le_div_right (c := 2 ^ 29) L_q2) (Nat.mul_le_mul A0 B3)) (Nat.mul_le_mul A1 B2)) (Nat.mul_le_mul A2 B1)) (Nat.mul_le_mul A3 B0)) (Nat.mul_le_mul_left 31264 L_h3)) (Nat.mul_le_mul_left 256 L_h2)) (by decide)
  refine ks_tl (y := lN q3) (congrArg lN e_q3) ?_
  refine ks_lstore dX3_multiply_663 (by decide) rfl ?_
  refine ks_sub [(75, _), (0, _), (1, _), (2, _), (3, _), (4, _), (5, _), (7, _), (9, _), (11, _), (13, _), (15, _), (17, _), (19, _), (21, _), (23, _), (25, _), (27, _), (29, _), (31, _), (33, _), (35, _), (37, _), (39, _), (41, _), (43, _), (45, _), (47, _), (49, _), (51, _), (53, _), (55, _), (57, _), (59, _), (61, _), (63, _), (65, _), (67, _), (69, _), (71, _), (73, _), (77, _), (79, _)] rfl ?_
  refine ks_aload dX3_multiply_665 rfl rfl ?_
  refine ks_iload_n dX3_multiply_667 rfl rfl ?_
  refine ks_iconst (x := nI 3) dX3_multiply_668 (by decide) rfl ?_
  refine ks_addN dX3_multiply_669 rfl ?_
  refine ks_lload dX3_multiply_670 rfl rfl ?_
  refine ks_ldc2 dX3_multiply_672 kx_506 rfl ?_
  refine ks_tl (y := lN 536870911) rfl ?_
  refine ks_landN (k := 29) (p := 536870912) (by decide) (by decide) (by decide) (Nat.lt_of_le_of_lt L_q3 (by decide)) dX3_multiply_675 rfl ?_
  obtain ⟨d3, e_d3⟩ : ∃ c, q3 % 536870912 = c := ⟨_, rfl⟩
  have L_d3 : d3 ≤ 536870911 := by
    rw [← e_d3]
    exact Nat.le_trans (Nat.le_of_lt_succ (Nat.mod_lt q3 (show 0 < 536870912 by decide))) (by decide)
  refine ks_tl (y := lN d3) (congrArg lN e_d3) ?_
  refine ks_lastNN (i := 9 * o + 3) (v := d3) (ks_set_same _ _ _) (by omega) (by decide) dX3_multiply_676 rfl ?_
  refine ks_tS (by rw [layF_up _ _ _ _ (by decide)]) ?_
  refine ks_lload dX3_multiply_677 rfl rfl ?_
  refine ks_bipush (x := nI 29) dX3_multiply_679 (by decide) rfl ?_
  refine ks_lushrN (k := 29) (by decide) (Nat.lt_of_le_of_lt L_q3 (by decide)) dX3_multiply_681 rfl ?_
  refine ks_lload dX3_multiply_682 rfl rfl ?_
  refine ks_lload dX3_multiply_684 rfl rfl ?_
  refine ks_lmulN dX3_multiply_686 rfl ?_
  refine ks_laddN dX3_multiply_687 rfl ?_
  refine ks_lload dX3_multiply_688 rfl rfl ?_
  refine ks_lload dX3_multiply_690 rfl rfl ?_
  refine ks_lmulN dX3_multiply_692 rfl ?_
  refine ks_laddN dX3_multiply_693 rfl ?_
  refine ks_lload dX3_multiply_694 rfl rfl ?_
  refine ks_lload dX3_multiply_696 rfl rfl ?_
  refine ks_lmulN dX3_multiply_698 rfl ?_
  refine ks_laddN dX3_multiply_699 rfl ?_
  refine ks_lload dX3_multiply_700 rfl rfl ?_
  refine ks_lload dX3_multiply_702 rfl rfl ?_
  refine ks_lmulN dX3_multiply_704 rfl ?_
  refine ks_laddN dX3_multiply_705 rfl ?_
  refine ks_lload dX3_multiply_706 rfl rfl ?_
  refine ks_lload dX3_multiply_708 rfl rfl ?_
  refine ks_lmulN dX3_multiply_710 rfl ?_
  refine ks_laddN dX3_multiply_711 rfl ?_
  refine ks_ldc2 dX3_multiply_712 kx_507 rfl ?_
  refine ks_tl (y := lN 31264) rfl ?_
  refine ks_lload dX3_multiply_715 rfl rfl ?_
  refine ks_lmulN dX3_multiply_717 rfl ?_
  refine ks_laddN dX3_multiply_718 rfl ?_
  refine ks_ldc2 dX3_multiply_719 kx_509 rfl ?_
  refine ks_tl (y := lN 256) rfl ?_
  refine ks_lload dX3_multiply_722 rfl rfl ?_
  refine ks_lmulN dX3_multiply_724 rfl ?_
  refine ks_laddN dX3_multiply_725 rfl ?_
  obtain ⟨q4, e_q4⟩ : ∃ c, q3 / 2 ^ 29 + (a0 * b4) + (a1 * b3) + (a2 * b2) + (a3 * b1) + (a4 * b0) + (31264 * h4) + (256 * h3) = c := ⟨_, rfl⟩
  have L_q4 : q4 ≤ 1441168799708479488 := by
    rw [← e_q4]
    exact Nat.le_trans (Nat.add_le_add (Nat.add_le_add (Nat.add_le_add (Nat.add_le_add (Nat.add_le_add (Nat.add_le_add (Nat.add_le_add (Nat.div_le_div_right (c := 2 ^ 29) L_q3) (Nat.mul_le_mul A0 B4)) (Nat.mul_le_mul A1 B3)) (Nat.mul_le_mul A2 B2)) (Nat.mul_le_mul A3 B1)) (Nat.mul_le_mul A4 B0)) (Nat.mul_le_mul_left 31264 L_h4)) (Nat.mul_le_mul_left 256 L_h3)) (by decide)
  refine ks_tl (y := lN q4) (congrArg lN e_q4) ?_
  refine ks_lstore dX3_multiply_726 (by decide) rfl ?_
  refine ks_sub [(75, _), (0, _), (1, _), (2, _), (3, _), (4, _), (5, _), (7, _), (9, _), (11, _), (13, _), (15, _), (17, _), (19, _), (21, _), (23, _), (25, _), (27, _), (29, _), (31, _), (33, _), (35, _), (37, _), (39, _), (41, _), (43, _), (45, _), (47, _), (49, _), (51, _), (53, _), (55, _), (57, _), (59, _), (61, _), (63, _), (65, _), (67, _), (69, _), (71, _), (73, _), (77, _), (79, _)] rfl ?_
  refine ks_aload dX3_multiply_728 rfl rfl ?_
  refine ks_iload_n dX3_multiply_730 rfl rfl ?_
  refine ks_iconst (x := nI 4) dX3_multiply_731 (by decide) rfl ?_
  refine ks_addN dX3_multiply_732 rfl ?_
  refine ks_lload dX3_multiply_733 rfl rfl ?_
  refine ks_ldc2 dX3_multiply_735 kx_506 rfl ?_
  refine ks_tl (y := lN 536870911) rfl ?_
  refine ks_landN (k := 29) (p := 536870912) (by decide) (by decide) (by decide) (Nat.lt_of_le_of_lt L_q4 (by decide)) dX3_multiply_738 rfl ?_
  obtain ⟨d4, e_d4⟩ : ∃ c, q4 % 536870912 = c := ⟨_, rfl⟩
  have L_d4 : d4 ≤ 536870911 := by
    rw [← e_d4]
    exact Nat.le_trans (Nat.le_of_lt_succ (Nat.mod_lt q4 (show 0 < 536870912 by decide))) (by decide)
  refine ks_tl (y := lN d4) (congrArg lN e_d4) ?_
  refine ks_lastNN (i := 9 * o + 4) (v := d4) (ks_set_same _ _ _) (by omega) (by decide) dX3_multiply_739 rfl ?_
  refine ks_tS (by rw [layF_up _ _ _ _ (by decide)]) ?_
  refine ks_lload dX3_multiply_740 rfl rfl ?_
  refine ks_bipush (x := nI 29) dX3_multiply_742 (by decide) rfl ?_
  refine ks_lushrN (k := 29) (by decide) (Nat.lt_of_le_of_lt L_q4 (by decide)) dX3_multiply_744 rfl ?_
  refine ks_lload dX3_multiply_745 rfl rfl ?_
  refine ks_lload dX3_multiply_747 rfl rfl ?_
  refine ks_lmulN dX3_multiply_749 rfl ?_
  refine ks_laddN dX3_multiply_750 rfl ?_
  refine ks_lload dX3_multiply_751 rfl rfl ?_
  refine ks_lload dX3_multiply_753 rfl rfl ?_
  refine ks_lmulN dX3_multiply_755 rfl ?_
  refine ks_laddN dX3_multiply_756 rfl ?_
  refine ks_lload dX3_multiply_757 rfl rfl ?_
  refine ks_lload dX3_multiply_759 rfl rfl ?_
  refine ks_lmulN dX3_multiply_761 rfl ?_
  refine ks_laddN dX3_multiply_762 rfl ?_
  refine ks_lload dX3_multiply_763 rfl rfl ?_
  refine ks_lload dX3_multiply_765 rfl rfl ?_
  refine ks_lmulN dX3_multiply_767 rfl ?_
  refine ks_laddN dX3_multiply_768 rfl ?_
  refine ks_lload dX3_multiply_769 rfl rfl ?_
  refine ks_lload dX3_multiply_771 rfl rfl ?_
  refine ks_lmulN dX3_multiply_773 rfl ?_
  refine ks_laddN dX3_multiply_774 rfl ?_
  refine ks_lload dX3_multiply_775 rfl rfl ?_
  refine ks_lload dX3_multiply_777 rfl rfl ?_
  refine ks_lmulN dX3_multiply_779 rfl ?_
  refine ks_laddN dX3_multiply_780 rfl ?_
  refine ks_ldc2 dX3_multiply_781 kx_507 rfl ?_
  refine ks_tl (y := lN 31264) rfl ?_
  refine ks_lload dX3_multiply_784 rfl rfl ?_
  refine ks_lmulN dX3_multiply_786 rfl ?_
  refine ks_laddN dX3_multiply_787 rfl ?_
  refine ks_ldc2 dX3_multiply_788 kx_509 rfl ?_
  refine ks_tl (y := lN 256) rfl ?_
  refine ks_lload dX3_multiply_791 rfl rfl ?_
  refine ks_lmulN dX3_multiply_793 rfl ?_
  refine ks_laddN dX3_multiply_794 rfl ?_
  obtain ⟨q5, e_q5⟩ : ∃ c, q4 / 2 ^ 29 + (a0 * b5) + (a1 * b4) + (a2 * b3) + (a3 * b2) + (a4 * b1) + (a5 * b0) + (31264 * h5) + (256 * h4) = c := ⟨_, rfl⟩
  have L_q5 : q5 ≤ 1729399175323320320 := by
    rw [← e_q5]
    exact Nat.le_trans (Nat.add_le_add (Nat.add_le_add (Nat.add_le_add (Nat.add_le_add (Nat.add_le_add (Nat.add_le_add (Nat.add_le_add (Nat.add_le_add (Nat.div_le_div_right (c := 2 ^ 29) L_q4) (Nat.mul_le_mul A0 B5)) (Nat.mul_le_mul A1 B4)) (Nat.mul_le_mul A2 B3)) (Nat.mul_le_mul A3 B2)) (Nat.mul_le_mul A4 B1)) (Nat.mul_le_mul A5 B0)) (Nat.mul_le_mul_left 31264 L_h5)) (Nat.mul_le_mul_left 256 L_h4)) (by decide)
  refine ks_tl (y := lN q5) (congrArg lN e_q5) ?_
  refine ks_lstore dX3_multiply_795 (by decide) rfl ?_
  refine ks_sub [(75, _), (0, _), (1, _), (2, _), (3, _), (4, _), (5, _), (7, _), (9, _), (11, _), (13, _), (15, _), (17, _), (19, _), (21, _), (23, _), (25, _), (27, _), (29, _), (31, _), (33, _), (35, _), (37, _), (39, _), (41, _), (43, _), (45, _), (47, _), (49, _), (51, _), (53, _), (55, _), (57, _), (59, _), (61, _), (63, _), (65, _), (67, _), (69, _), (71, _), (73, _), (77, _), (79, _)] rfl ?_
  refine ks_aload dX3_multiply_797 rfl rfl ?_
  refine ks_iload_n dX3_multiply_799 rfl rfl ?_
  refine ks_iconst (x := nI 5) dX3_multiply_800 (by decide) rfl ?_
  refine ks_addN dX3_multiply_801 rfl ?_
  refine ks_lload dX3_multiply_802 rfl rfl ?_
  refine ks_ldc2 dX3_multiply_804 kx_506 rfl ?_
  refine ks_tl (y := lN 536870911) rfl ?_
  refine ks_landN (k := 29) (p := 536870912) (by decide) (by decide) (by decide) (Nat.lt_of_le_of_lt L_q5 (by decide)) dX3_multiply_807 rfl ?_
  obtain ⟨d5, e_d5⟩ : ∃ c, q5 % 536870912 = c := ⟨_, rfl⟩
  have L_d5 : d5 ≤ 536870911 := by
    rw [← e_d5]
    exact Nat.le_trans (Nat.le_of_lt_succ (Nat.mod_lt q5 (show 0 < 536870912 by decide))) (by decide)
  refine ks_tl (y := lN d5) (congrArg lN e_d5) ?_
  refine ks_lastNN (i := 9 * o + 5) (v := d5) (ks_set_same _ _ _) (by omega) (by decide) dX3_multiply_808 rfl ?_
  refine ks_tS (by rw [layF_up _ _ _ _ (by decide)]) ?_
  refine ks_lload dX3_multiply_809 rfl rfl ?_
  refine ks_bipush (x := nI 29) dX3_multiply_811 (by decide) rfl ?_
  refine ks_lushrN (k := 29) (by decide) (Nat.lt_of_le_of_lt L_q5 (by decide)) dX3_multiply_813 rfl ?_
  refine ks_lload dX3_multiply_814 rfl rfl ?_
  refine ks_lload dX3_multiply_816 rfl rfl ?_
  refine ks_lmulN dX3_multiply_818 rfl ?_
  refine ks_laddN dX3_multiply_819 rfl ?_
  refine ks_lload dX3_multiply_820 rfl rfl ?_
  refine ks_lload dX3_multiply_822 rfl rfl ?_
  refine ks_lmulN dX3_multiply_824 rfl ?_
  refine ks_laddN dX3_multiply_825 rfl ?_
  refine ks_lload dX3_multiply_826 rfl rfl ?_
  refine ks_lload dX3_multiply_828 rfl rfl ?_
  refine ks_lmulN dX3_multiply_830 rfl ?_
  refine ks_laddN dX3_multiply_831 rfl ?_
  refine ks_lload dX3_multiply_832 rfl rfl ?_
  refine ks_lload dX3_multiply_834 rfl rfl ?_
  refine ks_lmulN dX3_multiply_836 rfl ?_
  refine ks_laddN dX3_multiply_837 rfl ?_
  refine ks_lload dX3_multiply_838 rfl rfl ?_
  refine ks_lload dX3_multiply_840 rfl rfl ?_
  refine ks_lmulN dX3_multiply_842 rfl ?_
  refine ks_laddN dX3_multiply_843 rfl ?_
  refine ks_lload dX3_multiply_844 rfl rfl ?_
  refine ks_lload dX3_multiply_846 rfl rfl ?_
  refine ks_lmulN dX3_multiply_848 rfl ?_
  refine ks_laddN dX3_multiply_849 rfl ?_
  refine ks_lload dX3_multiply_850 rfl rfl ?_
  refine ks_lload dX3_multiply_852 rfl rfl ?_
  refine ks_lmulN dX3_multiply_854 rfl ?_
  refine ks_laddN dX3_multiply_855 rfl ?_
  refine ks_ldc2 dX3_multiply_856 kx_507 rfl ?_
  refine ks_tl (y := lN 31264) rfl ?_
  refine ks_lload dX3_multiply_859 rfl rfl ?_
  refine ks_lmulN dX3_multiply_861 rfl ?_
  refine ks_laddN dX3_multiply_862 rfl ?_
  refine ks_ldc2 dX3_multiply_863 kx_509 rfl ?_
  refine ks_tl (y := lN 256) rfl ?_
  refine ks_lload dX3_multiply_866 rfl rfl ?_
  refine ks_lmulN dX3_multiply_868 rfl ?_
  refine ks_laddN dX3_multiply_869 rfl ?_
  obtain ⟨q6, e_q6⟩ : ∃ c, q5 / 2 ^ 29 + (a0 * b6) + (a1 * b5) + (a2 * b4) + (a3 * b3) + (a4 * b2) + (a5 * b1) + (a6 * b0) + (31264 * h6) + (256 * h5) = c := ⟨_, rfl⟩
  have L_q6 : q6 ≤ 2017629550938161152 := by
    rw [← e_q6]
    exact Nat.le_trans (Nat.add_le_add (Nat.add_le_add (Nat.add_le_add (Nat.add_le_add (Nat.add_le_add (Nat.add_le_add (Nat.add_le_add (Nat.add_le_add (Nat.add_le_add (Nat.div_le_div_right (c := 2 ^ 29) L_q5) (Nat.mul_le_mul A0 B6)) (Nat.mul_le_mul A1 B5)) (Nat.mul_le_mul A2 B4)) (Nat.mul_le_mul A3 B3)) (Nat.mul_le_mul A4 B2)) (Nat.mul_le_mul A5 B1)) (Nat.mul_le_mul A6 B0)) (Nat.mul_le_mul_left 31264 L_h6)) (Nat.mul_le_mul_left 256 L_h5)) (by decide)
  refine ks_tl (y := lN q6) (congrArg lN e_q6) ?_
  refine ks_lstore dX3_multiply_870 (by decide) rfl ?_
  refine ks_sub [(75, _), (0, _), (1, _), (2, _), (3, _), (4, _), (5, _), (7, _), (9, _), (11, _), (13, _), (15, _), (17, _), (19, _), (21, _), (23, _), (25, _), (27, _), (29, _), (31, _), (33, _), (35, _), (37, _), (39, _), (41, _), (43, _), (45, _), (47, _), (49, _), (51, _), (53, _), (55, _), (57, _), (59, _), (61, _), (63, _), (65, _), (67, _), (69, _), (71, _), (73, _), (77, _), (79, _)] rfl ?_
  refine ks_aload dX3_multiply_872 rfl rfl ?_
  refine ks_iload_n dX3_multiply_874 rfl rfl ?_
  refine ks_bipush (x := nI 6) dX3_multiply_875 (by decide) rfl ?_
  refine ks_addN dX3_multiply_877 rfl ?_
  refine ks_lload dX3_multiply_878 rfl rfl ?_
  refine ks_ldc2 dX3_multiply_880 kx_506 rfl ?_
  refine ks_tl (y := lN 536870911) rfl ?_
  refine ks_landN (k := 29) (p := 536870912) (by decide) (by decide) (by decide) (Nat.lt_of_le_of_lt L_q6 (by decide)) dX3_multiply_883 rfl ?_
  obtain ⟨d6, e_d6⟩ : ∃ c, q6 % 536870912 = c := ⟨_, rfl⟩
  have L_d6 : d6 ≤ 536870911 := by
    rw [← e_d6]
    exact Nat.le_trans (Nat.le_of_lt_succ (Nat.mod_lt q6 (show 0 < 536870912 by decide))) (by decide)
  refine ks_tl (y := lN d6) (congrArg lN e_d6) ?_
  refine ks_lastNN (i := 9 * o + 6) (v := d6) (ks_set_same _ _ _) (by omega) (by decide) dX3_multiply_884 rfl ?_
  refine ks_tS (by rw [layF_up _ _ _ _ (by decide)]) ?_
  refine ks_lload dX3_multiply_885 rfl rfl ?_
  refine ks_bipush (x := nI 29) dX3_multiply_887 (by decide) rfl ?_
  refine ks_lushrN (k := 29) (by decide) (Nat.lt_of_le_of_lt L_q6 (by decide)) dX3_multiply_889 rfl ?_
  refine ks_lload dX3_multiply_890 rfl rfl ?_
  refine ks_lload dX3_multiply_892 rfl rfl ?_
  refine ks_lmulN dX3_multiply_894 rfl ?_
  refine ks_laddN dX3_multiply_895 rfl ?_
  refine ks_lload dX3_multiply_896 rfl rfl ?_
  refine ks_lload dX3_multiply_898 rfl rfl ?_
  refine ks_lmulN dX3_multiply_900 rfl ?_
  refine ks_laddN dX3_multiply_901 rfl ?_
  refine ks_lload dX3_multiply_902 rfl rfl ?_
  refine ks_lload dX3_multiply_904 rfl rfl ?_
  refine ks_lmulN dX3_multiply_906 rfl ?_
  refine ks_laddN dX3_multiply_907 rfl ?_
  refine ks_lload dX3_multiply_908 rfl rfl ?_
  refine ks_lload dX3_multiply_910 rfl rfl ?_
  refine ks_lmulN dX3_multiply_912 rfl ?_
  refine ks_laddN dX3_multiply_913 rfl ?_
  refine ks_lload dX3_multiply_914 rfl rfl ?_
  refine ks_lload dX3_multiply_916 rfl rfl ?_
  refine ks_lmulN dX3_multiply_918 rfl ?_
  refine ks_laddN dX3_multiply_919 rfl ?_
  refine ks_lload dX3_multiply_920 rfl rfl ?_
  refine ks_lload dX3_multiply_922 rfl rfl ?_
  refine ks_lmulN dX3_multiply_924 rfl ?_
  refine ks_laddN dX3_multiply_925 rfl ?_
  refine ks_lload dX3_multiply_926 rfl rfl ?_
  refine ks_lload dX3_multiply_928 rfl rfl ?_
  refine ks_lmulN dX3_multiply_930 rfl ?_
  refine ks_laddN dX3_multiply_931 rfl ?_
  refine ks_lload dX3_multiply_932 rfl rfl ?_
  refine ks_lload dX3_multiply_934 rfl rfl ?_
  refine ks_lmulN dX3_multiply_936 rfl ?_
  refine ks_laddN dX3_multiply_937 rfl ?_
  refine ks_ldc2 dX3_multiply_938 kx_507 rfl ?_
  refine ks_tl (y := lN 31264) rfl ?_
  refine ks_lload dX3_multiply_941 rfl rfl ?_
  refine ks_lmulN dX3_multiply_943 rfl ?_
  refine ks_laddN dX3_multiply_944 rfl ?_
  refine ks_ldc2 dX3_multiply_945 kx_509 rfl ?_
  refine ks_tl (y := lN 256) rfl ?_
  refine ks_lload dX3_multiply_948 rfl rfl ?_
  refine ks_lmulN dX3_multiply_950 rfl ?_
  refine ks_laddN dX3_multiply_951 rfl ?_
  obtain ⟨q7, e_q7⟩ : ∃ c, q6 / 2 ^ 29 + (a0 * b7) + (a1 * b6) + (a2 * b5) + (a3 * b4) + (a4 * b3) + (a5 * b2) + (a6 * b1) + (a7 * b0) + (31264 * h7) + (256 * h6) = c := ⟨_, rfl⟩
  have L_q7 : q7 ≤ 2305859926553001984 := by
    rw [← e_q7]
    exact Nat.le_trans (Nat.add_le_add (Nat.add_le_add (Nat.add_le_add (Nat.add_le_add (Nat.add_le_add (Nat.add_le_add (Nat.add_le_add (Nat.add_le_add (Nat.add_le_add (Nat.add_le_add (Nat.div_le_div_right (c := 2 ^ 29) L_q6) (Nat.mul_le_mul A0 B7)) (Nat.mul_le_mul A1 B6)) (Nat.mul_le_mul A2 B5)) (Nat.mul_le_mul A3 B4)) (Nat.mul_le_mul A4 B3)) (Nat.mul_le_mul A5 B2)) (Nat.mul_le_mul A6 B1)) (Nat.mul_le_mul A7 B0)) (Nat.mul_le_mul_left 31264 L_h7)) (Nat.mul_le_mul_left 256 L_h6)) (by decide)
  refine ks_tl (y := lN q7) (congrArg lN e_q7) ?_
  refine ks_lstore dX3_multiply_952 (by decide) rfl ?_
  refine ks_sub [(75, _), (0, _), (1, _), (2, _), (3, _), (4, _), (5, _), (7, _), (9, _), (11, _), (13, _), (15, _), (17, _), (19, _), (21, _), (23, _), (25, _), (27, _), (29, _), (31, _), (33, _), (35, _), (37, _), (39, _), (41, _), (43, _), (45, _), (47, _), (49, _), (51, _), (53, _), (55, _), (57, _), (59, _), (61, _), (63, _), (65, _), (67, _), (69, _), (71, _), (73, _), (77, _), (79, _)] rfl ?_
  refine ks_aload dX3_multiply_954 rfl rfl ?_
  refine ks_iload_n dX3_multiply_956 rfl rfl ?_
  refine ks_bipush (x := nI 7) dX3_multiply_957 (by decide) rfl ?_
  refine ks_addN dX3_multiply_959 rfl ?_
  refine ks_lload dX3_multiply_960 rfl rfl ?_
  refine ks_ldc2 dX3_multiply_962 kx_506 rfl ?_
  refine ks_tl (y := lN 536870911) rfl ?_
  refine ks_landN (k := 29) (p := 536870912) (by decide) (by decide) (by decide) (Nat.lt_of_le_of_lt L_q7 (by decide)) dX3_multiply_965 rfl ?_
  obtain ⟨d7, e_d7⟩ : ∃ c, q7 % 536870912 = c := ⟨_, rfl⟩
  have L_d7 : d7 ≤ 536870911 := by
    rw [← e_d7]
    exact Nat.le_trans (Nat.le_of_lt_succ (Nat.mod_lt q7 (show 0 < 536870912 by decide))) (by decide)
  refine ks_tl (y := lN d7) (congrArg lN e_d7) ?_
  refine ks_lastNN (i := 9 * o + 7) (v := d7) (ks_set_same _ _ _) (by omega) (by decide) dX3_multiply_966 rfl ?_
  refine ks_tS (by rw [layF_up _ _ _ _ (by decide)]) ?_
  refine ks_lload dX3_multiply_967 rfl rfl ?_
  refine ks_bipush (x := nI 29) dX3_multiply_969 (by decide) rfl ?_
  refine ks_lushrN (k := 29) (by decide) (Nat.lt_of_le_of_lt L_q7 (by decide)) dX3_multiply_971 rfl ?_
  refine ks_lload dX3_multiply_972 rfl rfl ?_
  refine ks_lload dX3_multiply_974 rfl rfl ?_
  refine ks_lmulN dX3_multiply_976 rfl ?_
  refine ks_laddN dX3_multiply_977 rfl ?_
  refine ks_lload dX3_multiply_978 rfl rfl ?_
  refine ks_lload dX3_multiply_980 rfl rfl ?_
  refine ks_lmulN dX3_multiply_982 rfl ?_
  refine ks_laddN dX3_multiply_983 rfl ?_
  refine ks_lload dX3_multiply_984 rfl rfl ?_
  refine ks_lload dX3_multiply_986 rfl rfl ?_
  refine ks_lmulN dX3_multiply_988 rfl ?_
  refine ks_laddN dX3_multiply_989 rfl ?_
  refine ks_lload dX3_multiply_990 rfl rfl ?_
  refine ks_lload dX3_multiply_992 rfl rfl ?_
  refine ks_lmulN dX3_multiply_994 rfl ?_
  refine ks_laddN dX3_multiply_995 rfl ?_
  refine ks_lload dX3_multiply_996 rfl rfl ?_
  refine ks_lload dX3_multiply_998 rfl rfl ?_
  refine ks_lmulN dX3_multiply_1000 rfl ?_
  refine ks_laddN dX3_multiply_1001 rfl ?_
  refine ks_lload dX3_multiply_1002 rfl rfl ?_
  refine ks_lload dX3_multiply_1004 rfl rfl ?_
  refine ks_lmulN dX3_multiply_1006 rfl ?_
  refine ks_laddN dX3_multiply_1007 rfl ?_
  refine ks_lload dX3_multiply_1008 rfl rfl ?_
  refine ks_lload dX3_multiply_1010 rfl rfl ?_
  refine ks_lmulN dX3_multiply_1012 rfl ?_
  refine ks_laddN dX3_multiply_1013 rfl ?_
  refine ks_lload dX3_multiply_1014 rfl rfl ?_
  refine ks_lload dX3_multiply_1016 rfl rfl ?_
  refine ks_lmulN dX3_multiply_1018 rfl ?_
  refine ks_laddN dX3_multiply_1019 rfl ?_
  refine ks_lload dX3_multiply_1020 rfl rfl ?_
  refine ks_lload dX3_multiply_1022 rfl rfl ?_
  refine ks_lmulN dX3_multiply_1024 rfl ?_
  refine ks_laddN dX3_multiply_1025 rfl ?_
  refine ks_ldc2 dX3_multiply_1026 kx_507 rfl ?_
  refine ks_tl (y := lN 31264) rfl ?_
  refine ks_lload dX3_multiply_1029 rfl rfl ?_
  refine ks_lmulN dX3_multiply_1031 rfl ?_
  refine ks_laddN dX3_multiply_1032 rfl ?_
  refine ks_ldc2 dX3_multiply_1033 kx_509 rfl ?_
  refine ks_tl (y := lN 256) rfl ?_
  refine ks_lload dX3_multiply_1036 rfl rfl ?_
  refine ks_lmulN dX3_multiply_1038 rfl ?_
  refine ks_laddN dX3_multiply_1039 rfl ?_
  obtain ⟨q8, e_q8⟩ : ∃ c, q7 / 2 ^ 29 + (a0 * b8) + (a1 * b7) + (a2 * b6) + (a3 * b5) + (a4 * b4) + (a5 * b3) + (a6 * b2) + (a7 * b1) + (a8 * b0) + (31264 * h8) + (256 * h7) = c := ⟨_, rfl⟩
  have L_q8 : q8 ≤ 2594090302167842816 := by
    rw [← e_q8]
    exact Nat.le_trans (Nat.add_le_add (Nat.add_le_add (Nat.add_le_add (Nat.add_le_add (Nat.add_le_add (Nat.add_le_add (Nat.add_le_add (Nat.add_le_add (Nat.add_le_add (Nat.add_le_add (Nat.add_le_add (Nat.div_le_div_right (c := 2 ^ 29) L_q7) (Nat.mul_le_mul A0 B8)) (Nat.mul_le_mul A1 B7)) (Nat.mul_le_mul A2 B6)) (Nat.mul_le_mul A3 B5)) (Nat.mul_le_mul A4 B4)) (Nat.mul_le_mul A5 B3)) (Nat.mul_le_mul A6 B2)) (Nat.mul_le_mul A7 B1)) (Nat.mul_le_mul A8 B0)) (Nat.mul_le_mul_left 31264 L_h8)) (Nat.mul_le_mul_left 256 L_h7)) (by decide)
  refine ks_tl (y := lN q8) (congrArg lN e_q8) ?_
  refine ks_lstore dX3_multiply_1040 (by decide) rfl ?_
  refine ks_sub [(75, _), (0, _), (1, _), (2, _), (3, _), (4, _), (5, _), (7, _), (9, _), (11, _), (13, _), (15, _), (17, _), (19, _), (21, _), (23, _), (25, _), (27, _), (29, _), (31, _), (33, _), (35, _), (37, _), (39, _), (41, _), (43, _), (45, _), (47, _), (49, _), (51, _), (53, _), (55, _), (57, _), (59, _), (61, _), (63, _), (65, _), (67, _), (69, _), (71, _), (73, _), (77, _), (79, _)] rfl ?_
  refine ks_aload dX3_multiply_1042 rfl rfl ?_
  refine ks_iload_n dX3_multiply_1044 rfl rfl ?_
  refine ks_bipush (x := nI 8) dX3_multiply_1045 (by decide) rfl ?_
  refine ks_addN dX3_multiply_1047 rfl ?_
  refine ks_lload dX3_multiply_1048 rfl rfl ?_
  refine ks_ldc2 dX3_multiply_1050 kx_511 rfl ?_
  refine ks_tl (y := lN 16777215) rfl ?_
  refine ks_landN (k := 24) (p := 16777216) (by decide) (by decide) (by decide) (Nat.lt_of_le_of_lt L_q8 (by decide)) dX3_multiply_1053 rfl ?_
  obtain ⟨d8, e_d8⟩ : ∃ c, q8 % 16777216 = c := ⟨_, rfl⟩
  have L_d8 : d8 ≤ 16777215 := by
    rw [← e_d8]
    exact Nat.le_trans (Nat.le_of_lt_succ (Nat.mod_lt q8 (show 0 < 16777216 by decide))) (by decide)
  refine ks_tl (y := lN d8) (congrArg lN e_d8) ?_
  refine ks_lastNN (i := 9 * o + 8) (v := d8) (ks_set_same _ _ _) (by omega) (by decide) dX3_multiply_1054 rfl ?_
  refine ks_tS (by rw [layF_up _ _ _ _ (by decide)]) ?_
  refine ks_lload dX3_multiply_1055 rfl rfl ?_
  refine ks_bipush (x := nI 24) dX3_multiply_1057 (by decide) rfl ?_
  refine ks_lushrN (k := 24) (by decide) (Nat.lt_of_le_of_lt L_q8 (by decide)) dX3_multiply_1059 rfl ?_
  obtain ⟨t, e_t⟩ : ∃ c, q8 / 2 ^ 24 = c := ⟨_, rfl⟩
  have L_t : t ≤ 154619830976 := by
    rw [← e_t]
    exact Nat.le_trans (Nat.div_le_div_right (c := 2 ^ 24) L_q8) (by decide)
  refine ks_tl (y := lN t) (congrArg lN e_t) ?_
  refine ks_lstore dX3_multiply_1060 (by decide) rfl ?_
  refine ks_sub [(75, _), (0, _), (1, _), (2, _), (3, _), (4, _), (5, _), (7, _), (9, _), (11, _), (13, _), (15, _), (17, _), (19, _), (21, _), (23, _), (25, _), (27, _), (29, _), (31, _), (33, _), (35, _), (37, _), (39, _), (41, _), (43, _), (45, _), (47, _), (49, _), (51, _), (53, _), (55, _), (57, _), (59, _), (61, _), (63, _), (65, _), (67, _), (69, _), (71, _), (73, _), (77, _), (79, _)] rfl ?_
  refine ks_lload dX3_multiply_1062 rfl rfl ?_
  refine ks_ldc2 dX3_multiply_1064 kx_512 rfl ?_
  refine ks_tl (y := lN 977) rfl ?_
  refine ks_lload dX3_multiply_1067 rfl rfl ?_
  refine ks_lmulN dX3_multiply_1069 rfl ?_
  refine ks_laddN dX3_multiply_1070 rfl ?_
  obtain ⟨u0, e_u0⟩ : ∃ c, d0 + (977 * t) = c := ⟨_, rfl⟩
  have L_u0 : u0 ≤ 151064111734463 := by
    rw [← e_u0]
    exact Nat.le_trans (Nat.add_le_add L_d0 (Nat.mul_le_mul_left 977 L_t)) (by decide)
  refine ks_tl (y := lN u0) (congrArg lN e_u0) ?_
  refine ks_lstore dX3_multiply_1071 (by decide) rfl ?_
  refine ks_sub [(77, _), (0, _), (1, _), (2, _), (3, _), (4, _), (5, _), (7, _), (9, _), (11, _), (13, _), (15, _), (17, _), (19, _), (21, _), (23, _), (25, _), (27, _), (29, _), (31, _), (33, _), (35, _), (37, _), (39, _), (41, _), (43, _), (45, _), (47, _), (49, _), (51, _), (53, _), (55, _), (57, _), (59, _), (61, _), (63, _), (65, _), (67, _), (69, _), (71, _), (73, _), (75, _), (79, _)] rfl ?_
  refine ks_lload dX3_multiply_1073 rfl rfl ?_
  refine ks_ldc2 dX3_multiply_1075 kx_513 rfl ?_
  refine ks_tl (y := lN 8) rfl ?_
  refine ks_lload dX3_multiply_1078 rfl rfl ?_
  refine ks_lmulN dX3_multiply_1080 rfl ?_
  refine ks_lload dX3_multiply_1081 rfl rfl ?_
  refine ks_bipush (x := nI 29) dX3_multiply_1083 (by decide) rfl ?_
  refine ks_lushrN (k := 29) (by decide) (Nat.lt_of_le_of_lt L_u0 (by decide)) dX3_multiply_1085 rfl ?_
  refine ks_laddN dX3_multiply_1086 rfl ?_
  refine ks_laddN dX3_multiply_1087 rfl ?_
  obtain ⟨u1, e_u1⟩ : ∃ c, d1 + (8 * t + (u0 / 2 ^ 29)) = c := ⟨_, rfl⟩
  have L_u1 : u1 ≤ 1237495800097 := by
    rw [← e_u1]
    exact Nat.le_trans (Nat.add_le_add L_d1 (Nat.add_le_add (Nat.mul_le_mul_left 8 L_t) (Nat.div_le_div_right (c := 2 ^ 29) L_u0))) (by decide)
  refine ks_tl (y := lN u1) (congrArg lN e_u1) ?_
  refine ks_lstore dX3_multiply_1088 (by decide) rfl ?_
  refine ks_sub [(79, _), (0, _), (1, _), (2, _), (3, _), (4, _), (5, _), (7, _), (9, _), (11, _), (13, _), (15, _), (17, _), (19, _), (21, _), (23, _), (25, _), (27, _), (29, _), (31, _), (33, _), (35, _), (37, _), (39, _), (41, _), (43, _), (45, _), (47, _), (49, _), (51, _), (53, _), (55, _), (57, _), (59, _), (61, _), (63, _), (65, _), (67, _), (69, _), (71, _), (73, _), (75, _), (77, _)] rfl ?_
  refine ks_aload dX3_multiply_1090 rfl rfl ?_
  refine ks_iload_n dX3_multiply_1092 rfl rfl ?_
  refine ks_lload dX3_multiply_1093 rfl rfl ?_
  refine ks_ldc2 dX3_multiply_1095 kx_506 rfl ?_
  refine ks_tl (y := lN 536870911) rfl ?_
  refine ks_landN (k := 29) (p := 536870912) (by decide) (by decide) (by decide) (Nat.lt_of_le_of_lt L_u0 (by decide)) dX3_multiply_1098 rfl ?_
  obtain ⟨r0, e_r0⟩ : ∃ c, u0 % 536870912 = c := ⟨_, rfl⟩
  have L_r0 : r0 ≤ 536870911 := by
    rw [← e_r0]
    exact Nat.le_trans (Nat.le_of_lt_succ (Nat.mod_lt u0 (show 0 < 536870912 by decide))) (by decide)
  refine ks_tl (y := lN r0) (congrArg lN e_r0) ?_
  refine ks_lastNN (i := 9 * o) (v := r0) (ks_set_same _ _ _) (by omega) (by decide) dX3_multiply_1099 rfl ?_
  refine ks_tS (by rw [show 9 * o = 9 * o + 0 from rfl, layF_up _ _ _ _ (by decide)]) ?_
  refine ks_aload dX3_multiply_1100 rfl rfl ?_
  refine ks_iload_n dX3_multiply_1102 rfl rfl ?_
  refine ks_iconst (x := nI 1) dX3_multiply_1103 (by decide) rfl ?_
  refine ks_addN dX3_multiply_1104 rfl ?_
  refine ks_lload dX3_multiply_1105 rfl rfl ?_
  refine ks_ldc2 dX3_multiply_1107 kx_506 rfl ?_
  refine ks_tl (y := lN 536870911) rfl ?_
  refine ks_landN (k := 29) (p := 536870912) (by decide) (by decide) (by decide) (Nat.lt_of_le_of_lt L_u1 (by decide)) dX3_multiply_1110 rfl ?_
  obtain ⟨r1, e_r1⟩ : ∃ c, u1 % 536870912 = c := ⟨_, rfl⟩
  have L_r1 : r1 ≤ 536870911 := by
    rw [← e_r1]
    exact Nat.le_trans (Nat.le_of_lt_succ (Nat.mod_lt u1 (show 0 < 536870912 by decide))) (by decide)
  refine ks_tl (y := lN r1) (congrArg lN e_r1) ?_
  refine ks_lastNN (i := 9 * o + 1) (v := r1) (ks_set_same _ _ _) (by omega) (by decide) dX3_multiply_1111 rfl ?_
  refine ks_tS (by rw [layF_up _ _ _ _ (by decide)]) ?_
  refine ks_lload dX3_multiply_1112 rfl rfl ?_
  refine ks_bipush (x := nI 29) dX3_multiply_1114 (by decide) rfl ?_
  refine ks_lushrN (k := 29) (by decide) (Nat.lt_of_le_of_lt L_u1 (by decide)) dX3_multiply_1116 rfl ?_
  obtain ⟨z, e_z⟩ : ∃ c, u1 / 2 ^ 29 = c := ⟨_, rfl⟩
  have L_z : z ≤ 2305 := by
    rw [← e_z]
    exact Nat.le_trans (Nat.div_le_div_right (c := 2 ^ 29) L_u1) (by decide)
  refine ks_tl (y := lN z) (congrArg lN e_z) ?_
  refine ks_lstore dX3_multiply_1117 (by decide) rfl ?_
  refine ks_sub [(75, _), (0, _), (1, _), (2, _), (3, _), (4, _), (5, _), (7, _), (9, _), (11, _), (13, _), (15, _), (17, _), (19, _), (21, _), (23, _), (25, _), (27, _), (29, _), (31, _), (33, _), (35, _), (37, _), (39, _), (41, _), (43, _), (45, _), (47, _), (49, _), (51, _), (53, _), (55, _), (57, _), (59, _), (61, _), (63, _), (65, _), (67, _), (69, _), (71, _), (73, _), (77, _), (79, _)] rfl ?_
  refine ks_iconst (x := nI 2) dX3_multiply_1119 (by decide) rfl ?_
  refine ks_istore dX3_multiply_1120 (by decide) rfl ?_
  refine ks_sub [(81, _), (0, _), (1, _), (2, _), (3, _), (4, _), (5, _), (7, _), (9, _), (11, _), (13, _), (15, _), (17, _), (19, _), (21, _), (23, _), (25, _), (27, _), (29, _), (31, _), (33, _), (35, _), (37, _), (39, _), (41, _), (43, _), (45, _), (47, _), (49, _), (51, _), (53, _), (55, _), (57, _), (59, _), (61, _), (63, _), (65, _), (67, _), (69, _), (71, _), (73, _), (75, _), (77, _), (79, _)] rfl ?_
  refine ks_sub [(0, _), (1, _), (4, _), (75, _), (81, _)] rfl ?_
  have W1 : R x * R y % pP = ((d0 + 977 * t) + 536870912 * ((d1 + 8 * t) + 536870912 * (d2 + 536870912 * (d3 + 536870912 * (d4 + 536870912 * (d5 + 536870912 * (d6 + 536870912 * (d7 + 536870912 * d8)))))))) % pP := mul_all (hX := hX) (hY := hY) ha0 ha1 ha2 ha3 ha4 ha5 ha6 ha7 ha8 hb0 hb1 hb2 hb3 hb4 hb5 hb6 hb7 hb8 e_c9 e_c10 e_c11 e_c12 e_c13 e_c14 e_c15 e_c16 e_h0 e_h1 e_h2 e_h3 e_h4 e_h5 e_h6 e_h7 e_h8 e_q0 e_q1 e_q2 e_q3 e_q4 e_q5 e_q6 e_q7 e_q8 e_d0 e_d1 e_d2 e_d3 e_d4 e_d5 e_d6 e_d7 e_d8 e_t
  have W2 : ((d0 + 977 * t) + 536870912 * ((d1 + 8 * t) + 536870912 * (d2 + 536870912 * (d3 + 536870912 * (d4 + 536870912 * (d5 + 536870912 * (d6 + 536870912 * (d7 + 536870912 * d8)))))))) < 2 * pP := mul_small (hX := hX) (hY := hY) L_d0 L_d1 L_d2 L_d3 L_d4 L_d5 L_d6 L_d7 L_d8 L_t
  rw [W1]
  refine ks_sub [(0, _), (1, _), (4, _), (75, _), (81, _)] rfl (l_mlCarry hF ho hR W2 7 2 z _ (va_up (va_up (va_up (va_up (va_up (va_up (va_up (va_up (va_up (dL (R o)) 2 d2) 3 d3) 4 d4) 5 d5) 6 d6) 7 d7) 8 d8) 0 r0) 1 r1) (by decide) (Nat.lt_of_le_of_lt L_z (by decide)) ?_ ?_ ?_ ((ks_set_ne _ _ (by decide)).trans ((ks_set_ne _ _ (by decide)).trans ((ks_set_ne _ _ (by decide)).trans ((ks_set_ne _ _ (by decide)).trans ((ks_set_ne _ _ (by decide)).trans ((ks_set_ne _ _ (by decide)).trans ((ks_set_ne _ _ (by decide)).trans ((ks_set_ne _ _ (by decide)).trans ((ks_set_ne _ _ (by decide)).trans hC))))))))) ((ks_set_ne _ _ (by decide)).trans ((ks_set_ne _ _ (by decide)).trans ((ks_set_ne _ _ (by decide)).trans ((ks_set_ne _ _ (by decide)).trans ((ks_set_ne _ _ (by decide)).trans ((ks_set_ne _ _ (by decide)).trans ((ks_set_ne _ _ (by decide)).trans ((ks_set_ne _ _ (by decide)).trans ((ks_set_ne _ _ (by decide)).trans hF.1))))))))) (ks_set_same _ _ _))
  · intro k hk
    rcases nine hk with rfl | rfl | rfl | rfl | rfl | rfl | rfl | rfl | rfl
    · exact Nat.lt_of_le_of_lt L_r0 (by decide)
    · exact Nat.lt_of_le_of_lt L_r1 (by decide)
    · exact Nat.lt_of_le_of_lt L_d2 (by decide)
    · exact Nat.lt_of_le_of_lt L_d3 (by decide)
    · exact Nat.lt_of_le_of_lt L_d4 (by decide)
    · exact Nat.lt_of_le_of_lt L_d5 (by decide)
    · exact Nat.lt_of_le_of_lt L_d6 (by decide)
    · exact Nat.lt_of_le_of_lt L_d7 (by decide)
    · exact Nat.lt_of_le_of_lt L_d8 (by decide)
  · rw [dg_9]
    show r0 + 536870912 * (r1 + 536870912 * (d2 + 536870912 * (d3 + 536870912 * (d4 + 536870912 * (d5 + 536870912 * (d6 + 536870912 * (d7 + 536870912 * d8))))))) + z * 536870912 ^ 2 = _
    exact mul_carry e_u0 e_u1 e_r0 e_r1 e_z
  · repeat first | exact ks_up_set _ _ (by decide) | refine ks_up.trans ?_ (ks_up_set _ _ (by decide))

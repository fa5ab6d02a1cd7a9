/-! THE REFERENCE: its constructor -/
set_option maxRecDepth 100000 in
set_option maxHeartbeats 800000 in
theorem c_md_init {l : Launch} {G : ks_G} {d : Nat} {S : ks_S} (hO : S.2.2 290 = some (.inr (19, icL icD))) (hS1 : S.1 = 291) (hlow : ∀ x, x < 290 → ∃ e, S.2.2 x = some e ∧ ∀ g, e ≠ kB 520 g) (hnw : ∀ a, 291 ≤ a → a < ks_B → S.2.2 a = none) : ks_P l G yX16_init mX16_init (d + 14) [.ref 290] S (fun z S' => z = none ∧ ∃ V' F' D M, D 0 = fsT ∧ M = fsB D ∧ rqS S' V' F' 1 0 (ckB (fsK 565 M) 0) [0] [0] 0 D [] 0 (lN 1000600) 0 ∧ frS rfN S S' ∧ S'.1 + F' = 3583 ∧ S'.2.1 + 520 * F' = S.2.1 + 257913 + 520 * 3006) := by
  refine ks_of (by decide) rfl rfl (Nat.le_of_ble_eq_true rfl) ?_
  show ks_X l G mX16_init (d + 14) 0 [(0, .ref 290)] [] S _
  refine l_i12 (d := d + 11) hO hS1 (fun S1 h1 => ?_)
  refine l_i13 (d := d + 11) h1 (fun S2 h2 => ?_)
  obtain ⟨W2, z2, t2, nw2, c341, c342, c343⟩ := rq_of h2 hlow hnw
  have n2 : S2.1 = 565 := h2.1.1
  have s2 : S2.2.1 = S.2.1 + 255799 := h2.1.2.1
  have f2 : ∀ a, a < 290 ∨ 565 ≤ a → S2.2.2 a = S.2.2 a := h2.1.2.2.2.2.1
  have h531 : S2.2.2 531 = some (kB 1600 (fun _ => 0)) := h2.1.2.2.2.1 531 (by decide) (by decide) (by decide)
  refine l_i14 (d := d + 13) W2 z2 h531 (fun S3 V3 D W3 D3 e3 v94 v93 v92 B3 p3 => ?_)
  have n3 : S3.1 = S2.1 := p3.1.1
  have s3 : S3.2.1 = S2.2.1 := p3.1.2.1
  have hm : ∀ a, a < 374 ∨ 531 < a → a ≠ 290 → a ∉ 290 :: 531 :: LDw := fun a h1 h2 h3 => by
    simp only [List.mem_cons, mem_LDw] at h3
    omega
  refine l_i15 (d := d) W3 D3 e3 v94 v93 v92 ?_ ?_ B3 (p3.1.at c341 (hm _ (by decide) (by decide))) (p3.1.at c342 (hm _ (by decide) (by decide))) (p3.1.at c343 (hm _ (by decide) (by decide))) (by omega) (by rw [n3, n2]; unfold ks_B; decide) (fun S4 V4 F4 M eM Q4 fr4 n4 s4 => ?_)
  · rw [p3.2.2 47 (by decide)]; rfl
  · rw [p3.2.2 55 (by decide)]; rfl
  refine ⟨rfl, V4, F4, D, M, e3, eM, ?_, fun a e g1 g2 g3 => fr4 a e ?_ g2 g3, by omega, by omega⟩
  · rw [show (565 : Nat) = S3.1 by omega]
    exact Q4
  · have g4 : ¬ (290 ≤ a ∧ a < 565) := fun hm => g2 (mem_rfN.mpr hm)
    refine p3.1.at ?_ (hm a (by omega) (by omega))
    rw [f2 a (by omega)]
    exact g1

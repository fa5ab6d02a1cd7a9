/-! THE REFERENCE: primes -/
def piF (p : Nat) : Nat → Nat → Bool
  | 0, _ => true
  | u + 1, d => if p < d * d then true else if p % d = 0 then false else piF p u (d + 1)
set_option maxRecDepth 100000 in
set_option maxHeartbeats 800000 in
theorem c_md_isPrime {l : Launch} {G : ks_G} {d : Nat} {S : ks_S} {p : Nat} (hp : p < 30000) : ks_P l G yX16_isPrime mX16_isPrime d [.int (nI p)] S (fun z S' => z = some (.int (ks_bo (piF p p 2))) ∧ S' = S) := by
  have loop : ∀ (u q : Nat), 2 ≤ q → q + u = p + 2 → piF p u q = piF p p 2 → ks_X l G mX16_isPrime d 2 [(0, .int (nI p)), (1, .int (nI q))] [] S (fun z S' => z = some (.int (ks_bo (piF p p 2))) ∧ S' = S) := by
    intro u
    induction u with
    | zero =>
      intro q h2 hq hf
      have hqq : q * q ≤ 40000 * 40000 := Nat.mul_le_mul (by omega) (by omega)
      have hlt : p < q * q := Nat.lt_of_lt_of_le (show p < q by omega) (Nat.le_mul_of_pos_right q (by omega))
      refine ks_iload_n dX16_isPrime_2 rfl rfl ?_
      refine ks_iload_n dX16_isPrime_3 rfl rfl ?_
      refine ks_mulN dX16_isPrime_4 rfl ?_
      refine ks_iload_n dX16_isPrime_5 rfl rfl ?_
      refine ks_icmp_gtN (tgt := 23) (by omega) (by omega) dX16_isPrime_6 (by decide) rfl (fun h1 => ?_) (fun h1 => absurd h1 (by omega))
      refine ks_iconst (x := nI 1) dX16_isPrime_23 (by decide) rfl ?_
      refine ks_zret rfl rfl dX16_isPrime_24 ?_
      rw [← hf]
      exact ⟨rfl, rfl⟩
    | succ u ih =>
      intro q h2 hq hf
      have hqq : q * q ≤ 40000 * 40000 := Nat.mul_le_mul (by omega) (by omega)
      rw [show piF p (u + 1) q = if p < q * q then true else if p % q = 0 then false else piF p u (q + 1) from rfl] at hf
      have hm9 : p % q < q := Nat.mod_lt _ (by omega)
      refine ks_iload_n dX16_isPrime_2 rfl rfl ?_
      refine ks_iload_n dX16_isPrime_3 rfl rfl ?_
      refine ks_mulN dX16_isPrime_4 rfl ?_
      refine ks_iload_n dX16_isPrime_5 rfl rfl ?_
      refine ks_icmp_gtN (tgt := 23) (by omega) (by omega) dX16_isPrime_6 (by decide) rfl (fun h1 => ?_) (fun h1 => ?_)
      · refine ks_iconst (x := nI 1) dX16_isPrime_23 (by decide) rfl ?_
        refine ks_zret rfl rfl dX16_isPrime_24 ?_
        rw [if_pos h1] at hf
        rw [← hf]
        exact ⟨rfl, rfl⟩
      · rw [if_neg h1] at hf
        refine ks_iload_n dX16_isPrime_9 rfl rfl ?_
        refine ks_iload_n dX16_isPrime_10 rfl rfl ?_
        refine ks_remN (by omega) (by omega) (by omega) dX16_isPrime_11 rfl ?_
        refine ks_if_neN (tgt := 17) (by omega) dX16_isPrime_12 (by decide) rfl (fun h3 => ?_) (fun h3 => ?_)
        · rw [if_neg h3] at hf
          refine ks_incN (c := 1) (e := q + 1) dX16_isPrime_17 rfl (by decide) rfl (by decide) rfl ?_
          refine ks_sub [(1, _), (0, _)] rfl ?_
          refine ks_goto (tgt := 2) dX16_isPrime_20 (by decide) ?_
          exact ks_sub [(0, _), (1, _)] rfl (ih (q + 1) (by omega) (by omega) hf)
        · refine ks_iconst (x := nI 0) dX16_isPrime_15 (by decide) rfl ?_
          refine ks_zret rfl rfl dX16_isPrime_16 ?_
          rw [if_pos h3] at hf
          rw [← hf]
          exact ⟨rfl, rfl⟩
  refine ks_of (by decide) rfl rfl (Nat.le_of_ble_eq_true rfl) ?_
  show ks_X l G mX16_isPrime d 0 [(0, .int (nI p))] [] S _
  refine ks_iconst (x := nI 2) dX16_isPrime_0 (by decide) rfl ?_
  refine ks_istore_n dX16_isPrime_1 (by decide) rfl ?_
  refine ks_sub [(1, _), (0, _)] rfl ?_
  exact ks_sub [(0, _), (1, .int (nI 2))] rfl (loop p 2 (by decide) (by omega) rfl)

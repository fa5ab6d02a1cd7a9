/-! THE JUDGE: no such transaction -/
set_option maxRecDepth 100000 in
set_option maxHeartbeats 800000 in
theorem c_jd_hasN {l : Launch} {G : ks_G} {d : Nat} {S : ks_S} {dc dp : Nat} {dt : Int64} {rs : Int32} (h0 : S.2.2 0 = some (jdO dc dp dt rs)) {n best : Nat} {cc : Int32} {tk : Int64} {B : Nat → Bk} (hX : chX S n best cc tk B) {x t : Int32} (hn : t < 0 ∨ nI n ≤ x) : ks_P l G yX11_hasTransaction mX11_hasTransaction d [.ref 0, .int x, .int t] S (fun z S' => z = some (.int (ks_bo false)) ∧ S' = S) := by
  have h0 : S.2.2 0 = some (.inr (14, [.ref 1, .ref 3, .ref 5, .ref 7, .ref 14, .ref 20, .ref 27, .ref 41, .ref 52, .ref 53, .ref 54, .ref 55, .int (nI dc), .int (nI dp), .long dt, .int rs])) := h0
  obtain ⟨hO, ⟨bf, h42, hbf⟩, hB, hn60⟩ := id hX
  refine ks_of (by decide) rfl rfl (Nat.le_of_ble_eq_true rfl) ?_
  show ks_X l G mX11_hasTransaction d 0 [(0, .ref 0), (1, .int x), (2, .int t)] [] S _
  refine ks_iload_n dX11_hasTransaction_0 rfl rfl ?_
  refine ks_if_lt (tgt := 15) dX11_hasTransaction_1 (by decide) rfl (fun h1 => ?_) (fun h1 => ?_)
  · refine ks_iconst (x := nI 0) dX11_hasTransaction_15 (by decide) rfl ?_
    refine ks_zret rfl rfl dX11_hasTransaction_16 ?_
    exact ⟨rfl, rfl⟩
  · refine ks_iload_n dX11_hasTransaction_4 rfl rfl ?_
    refine ks_aload_n dX11_hasTransaction_5 rfl rfl ?_
    refine ks_getf (T := TX11) (kf := 7) kx_1060 rfl in_X11 cl_X11 (by decide) h0 rfl dX11_hasTransaction_6 rfl ?_
    refine ks_getf (T := TX2) (kf := 3) kx_736 rfl in_X2 cl_X2 (by decide) hO rfl dX11_hasTransaction_9 rfl ?_
    refine ks_icmp_lt (tgt := 17) dX11_hasTransaction_12 (by decide) rfl (fun h2 => ?_) (fun h2 => ?_)
    · exact absurd h2 (Int32.not_lt.mpr (hn.resolve_left h1))
    · refine ks_iconst (x := nI 0) dX11_hasTransaction_15 (by decide) rfl ?_
      refine ks_zret rfl rfl dX11_hasTransaction_16 ?_
      exact ⟨rfl, rfl⟩

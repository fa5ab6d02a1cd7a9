/-! TXVIEW: asks -/
def scI (g : Nat → Nat) (L p i : Nat) : List Nat := bytL g (iS g L p i) (iZ g L p i)
def scO (g : Nat → Nat) (L u i : Nat) : List Nat := bytL g (oS g L u i) (oZ g L u i)
/-- the asks of all scripts of a transaction -/
def asT (g : Nat → Nat) (L k p m u : Nat) : Nat := sum_ (fun i => ask_ (scI g L p i)) k + sum_ (fun i => ask_ (scO g L u i)) m
theorem ask_le (c : List Nat) : ask_ c ≤ 20 * c.length := askN_le _ _
theorem sumB {f : Nat → Nat} {b : Nat} : ∀ {n : Nat}, (∀ i, i < n → f i ≤ b) → sum_ f n ≤ b * n
  | 0, _ => Nat.le_refl 0
  | n + 1, h => by
    have h1 := sumB (n := n) (fun i hi => h i (by omega))
    have h2 := h n (by omega)
    show sum_ f n + f n ≤ b * (n + 1)
    rw [Nat.mul_succ]
    omega
set_option maxRecDepth 100000 in
set_option maxHeartbeats 800000 in
theorem c_tv_asks {l : Launch} {G : ks_G} {d : Nat} {S : ks_S} {y N L b k p m u e : Nat} {g : Nat → Nat} (hV : tv_ok S y g L b k p m u e) (hy : S.2.2 y = some (kB N g)) (hg : kO g) (hL : L ≤ N) (hN : N < 2 ^ 18) (hL16 : L ≤ 1600) : ks_P l G yX10_asks mX10_asks (d + 3) [.ref 20] S (fun z S' => z = some (.int (nI (asT g L k p m u))) ∧ S' = S) := by
  obtain ⟨fA, fS, fZ, hA, hS, hZ, h21, h22, h23, h24, h25, h26, hI, hU⟩ := tv_get hV
  have hb9 := tx_bd hV.2.1
  have bI : ∀ i, i < k → ask_ (scI g L p i) ≤ 32000 := fun i hi => by
    have h1 := ask_le (scI g L p i)
    have h2 := tx_in hV.2.1 i hi
    unfold scI at h1 ⊢
    rw [bytL_len] at h1
    omega
  have bO : ∀ i, i < m → ask_ (scO g L u i) ≤ 32000 := fun i hi => by
    have h1 := ask_le (scO g L u i)
    have h2 := tx_out hV.2.1 i hi
    unfold scO at h1 ⊢
    rw [bytL_len] at h1
    omega
  have sI : ∀ j, j ≤ k → sum_ (fun i => ask_ (scI g L p i)) j ≤ 32000 * 40 := fun j hj => by
    have := sumB (f := fun i => ask_ (scI g L p i)) (b := 32000) (n := j) (fun i hi => bI i (by omega))
    omega
  have sO : ∀ j, j ≤ m → sum_ (fun i => ask_ (scO g L u i)) j ≤ 32000 * 180 := fun j hj => by
    have := sumB (f := fun i => ask_ (scO g L u i)) (b := 32000) (n := j) (fun i hi => bO i (by omega))
    omega
  obtain ⟨A, hA9⟩ : ∃ A, sum_ (fun i => ask_ (scI g L p i)) k = A := ⟨_, rfl⟩
  have hA8 : A ≤ 32000 * 40 := by rw [← hA9]; exact sI k (Nat.le_refl _)
  have lo : ∀ c j, j + c = m → ks_X l G mX10_asks (d + 3) 49 [(0, .ref 20), (1, .int (nI (A + sum_ (fun i => ask_ (scO g L u i)) j))), (2, .int (nI j))] [] S (fun z S' => z = some (.int (nI (asT g L k p m u))) ∧ S' = S) := by
    intro c
    induction c with
    | zero =>
      intro j hj
      have s9 := sO j (by omega)
      refine ks_iload_n dX10_asks_49 rfl rfl ?_
      refine ks_aload_n dX10_asks_50 rfl rfl ?_
      refine ks_getf (T := TX10) (kf := 2) kx_559 rfl in_X10 cl_X10 (by decide) hV.1 rfl dX10_asks_51 rfl ?_
      refine ks_icmp_geN (tgt := 92) (by omega) (by omega) dX10_asks_54 (by decide) rfl (fun h1 => ?_) (fun h1 => ?_)
      · obtain rfl : j = m := by omega
        refine ks_iload_n dX10_asks_92 rfl rfl ?_
        refine ks_iret rfl dX10_asks_93 ?_
        refine ⟨?_, rfl⟩
        unfold asT
        rw [hA9]
      · omega
    | succ c ih =>
      intro j hj
      have s9 := sO j (by omega)
      refine ks_iload_n dX10_asks_49 rfl rfl ?_
      refine ks_aload_n dX10_asks_50 rfl rfl ?_
      refine ks_getf (T := TX10) (kf := 2) kx_559 rfl in_X10 cl_X10 (by decide) hV.1 rfl dX10_asks_51 rfl ?_
      refine ks_icmp_geN (tgt := 92) (by omega) (by omega) dX10_asks_54 (by decide) rfl (fun h1 => ?_) (fun h1 => ?_)
      · omega
      · have t9 := tx_out hV.2.1 j (by omega)
        obtain ⟨q1, q2, q3⟩ := hU j (by omega)
        rw [← q2, ← q3] at t9
        refine ks_iload_n dX10_asks_57 rfl rfl ?_
        refine ks_aload_n dX10_asks_58 rfl rfl ?_
        refine ks_getf (T := TX10) (kf := 0) kx_554 rfl in_X10 cl_X10 (by decide) hV.1 rfl dX10_asks_59 rfl ?_
        refine ks_aload_n dX10_asks_62 rfl rfl ?_
        refine ks_getf (T := TX10) (kf := 7) kx_569 rfl in_X10 cl_X10 (by decide) hV.1 rfl dX10_asks_63 rfl ?_
        refine ks_iload_n dX10_asks_66 rfl rfl ?_
        refine ks_ialdN (i := j) h25 rfl (by omega) (by decide) dX10_asks_67 rfl ?_
        refine ks_aload_n dX10_asks_68 rfl rfl ?_
        refine ks_getf (T := TX10) (kf := 7) kx_569 rfl in_X10 cl_X10 (by decide) hV.1 rfl dX10_asks_69 rfl ?_
        refine ks_iload_n dX10_asks_72 rfl rfl ?_
        refine ks_ialdN (i := j) h25 rfl (by omega) (by decide) dX10_asks_73 rfl ?_
        refine ks_aload_n dX10_asks_74 rfl rfl ?_
        refine ks_getf (T := TX10) (kf := 8) kx_570 rfl in_X10 cl_X10 (by decide) hV.1 rfl dX10_asks_75 rfl ?_
        refine ks_iload_n dX10_asks_78 rfl rfl ?_
        refine ks_ialdN (i := j) h26 rfl (by omega) (by decide) dX10_asks_79 rfl ?_
        refine ks_addN dX10_asks_80 rfl ?_
        refine ks_callS (n := 3) (M' := mX7_asks) (c_asks (d := d) (s := hS j) (e := hS j + hZ j) hy hg (by omega) (by omega) (by omega)) kx_1484 kx_1485 kx_24 kx_1486 (by decide +kernel) rfl (by decide) (Nat.le_of_ble_eq_true rfl) rfl dX10_asks_81 rfl (fun z1 T1 y1 => ?_)
        obtain ⟨rfl, hT⟩ := y1
        obtain rfl := hT.symm
        rw [Nat.add_sub_cancel_left, q2, q3, show bytL g (oS g L u j) (oZ g L u j) = scO g L u j from rfl]
        refine ks_addN dX10_asks_84 rfl ?_
        refine ks_istore_n dX10_asks_85 (by decide) rfl ?_
        refine ks_sub [(1, _), (0, _), (2, _)] rfl ?_
        refine ks_incN (c := 1) (e := j + 1) dX10_asks_86 rfl (by decide) rfl (by decide) rfl ?_
        refine ks_sub [(2, _), (0, _), (1, _)] rfl ?_
        refine ks_goto (tgt := 49) dX10_asks_89 (by decide) ?_
        have h9 := ih (j + 1) (by omega)
        rw [show A + sum_ (fun i => ask_ (scO g L u i)) (j + 1) = A + sum_ (fun i => ask_ (scO g L u i)) j + ask_ (scO g L u j) from (Nat.add_assoc _ _ _).symm] at h9
        exact ks_sub [(0, _), (1, _), (2, _)] rfl h9
  have li : ∀ c j, j + c = k → ks_X l G mX10_asks (d + 3) 4 [(0, .ref 20), (1, .int (nI (sum_ (fun i => ask_ (scI g L p i)) j))), (2, .int (nI j))] [] S (fun z S' => z = some (.int (nI (asT g L k p m u))) ∧ S' = S) := by
    intro c
    induction c with
    | zero =>
      intro j hj
      have s9 := sI j (by omega)
      refine ks_iload_n dX10_asks_4 rfl rfl ?_
      refine ks_aload_n dX10_asks_5 rfl rfl ?_
      refine ks_getf (T := TX10) (kf := 1) kx_557 rfl in_X10 cl_X10 (by decide) hV.1 rfl dX10_asks_6 rfl ?_
      refine ks_icmp_geN (tgt := 47) (by omega) (by omega) dX10_asks_9 (by decide) rfl (fun h1 => ?_) (fun h1 => ?_)
      · obtain rfl : j = k := by omega
        rw [hA9]
        refine ks_iconst (x := nI 0) dX10_asks_47 (by decide) rfl ?_
        refine ks_istore_n dX10_asks_48 (by decide) rfl ?_
        refine ks_sub [(2, _), (0, _), (1, _)] rfl ?_
        exact ks_sub [(0, _), (1, .int (nI (A + 0))), (2, _)] rfl (lo m 0 (by omega))
      · omega
    | succ c ih =>
      intro j hj
      have s9 := sI j (by omega)
      refine ks_iload_n dX10_asks_4 rfl rfl ?_
      refine ks_aload_n dX10_asks_5 rfl rfl ?_
      refine ks_getf (T := TX10) (kf := 1) kx_557 rfl in_X10 cl_X10 (by decide) hV.1 rfl dX10_asks_6 rfl ?_
      refine ks_icmp_geN (tgt := 47) (by omega) (by omega) dX10_asks_9 (by decide) rfl (fun h1 => ?_) (fun h1 => ?_)
      · omega
      · have t9 := tx_in hV.2.1 j (by omega)
        obtain ⟨q1, q2, q3⟩ := hI j (by omega)
        rw [← q2, ← q3] at t9
        refine ks_iload_n dX10_asks_12 rfl rfl ?_
        refine ks_aload_n dX10_asks_13 rfl rfl ?_
        refine ks_getf (T := TX10) (kf := 0) kx_554 rfl in_X10 cl_X10 (by decide) hV.1 rfl dX10_asks_14 rfl ?_
        refine ks_aload_n dX10_asks_17 rfl rfl ?_
        refine ks_getf (T := TX10) (kf := 4) kx_563 rfl in_X10 cl_X10 (by decide) hV.1 rfl dX10_asks_18 rfl ?_
        refine ks_iload_n dX10_asks_21 rfl rfl ?_
        refine ks_ialdN (i := j) h22 rfl (by omega) (by decide) dX10_asks_22 rfl ?_
        refine ks_aload_n dX10_asks_23 rfl rfl ?_
        refine ks_getf (T := TX10) (kf := 4) kx_563 rfl in_X10 cl_X10 (by decide) hV.1 rfl dX10_asks_24 rfl ?_
        refine ks_iload_n dX10_asks_27 rfl rfl ?_
        refine ks_ialdN (i := j) h22 rfl (by omega) (by decide) dX10_asks_28 rfl ?_
        refine ks_aload_n dX10_asks_29 rfl rfl ?_
        refine ks_getf (T := TX10) (kf := 5) kx_565 rfl in_X10 cl_X10 (by decide) hV.1 rfl dX10_asks_30 rfl ?_
        refine ks_iload_n dX10_asks_33 rfl rfl ?_
        refine ks_ialdN (i := j) h23 rfl (by omega) (by decide) dX10_asks_34 rfl ?_
        refine ks_addN dX10_asks_35 rfl ?_
        refine ks_callS (n := 3) (M' := mX7_asks) (c_asks (d := d) (s := fS j) (e := fS j + fZ j) hy hg (by omega) (by omega) (by omega)) kx_1484 kx_1485 kx_24 kx_1486 (by decide +kernel) rfl (by decide) (Nat.le_of_ble_eq_true rfl) rfl dX10_asks_36 rfl (fun z1 T1 y1 => ?_)
        obtain ⟨rfl, hT⟩ := y1
        obtain rfl := hT.symm
        rw [Nat.add_sub_cancel_left, q2, q3, show bytL g (iS g L p j) (iZ g L p j) = scI g L p j from rfl]
        refine ks_addN dX10_asks_39 rfl ?_
        refine ks_istore_n dX10_asks_40 (by decide) rfl ?_
        refine ks_sub [(1, _), (0, _), (2, _)] rfl ?_
        refine ks_incN (c := 1) (e := j + 1) dX10_asks_41 rfl (by decide) rfl (by decide) rfl ?_
        refine ks_sub [(2, _), (0, _), (1, _)] rfl ?_
        refine ks_goto (tgt := 4) dX10_asks_44 (by decide) ?_
        refine ks_sub [(0, _), (1, _), (2, _)] ?_ (ih (j + 1) (by omega))
        rfl
  refine ks_of (by decide) rfl rfl (Nat.le_of_ble_eq_true rfl) ?_
  show ks_X l G mX10_asks (d + 3) 0 [(0, .ref 20)] [] S _
  refine ks_iconst (x := nI 0) dX10_asks_0 (by decide) rfl ?_
  refine ks_istore_n dX10_asks_1 (by decide) rfl ?_
  refine ks_sub [(1, _), (0, _)] rfl ?_
  refine ks_iconst (x := nI 0) dX10_asks_2 (by decide) rfl ?_
  refine ks_istore_n dX10_asks_3 (by decide) rfl ?_
  refine ks_sub [(2, _), (0, _), (1, _)] rfl ?_
  exact ks_sub [(0, _), (1, _), (2, _)] rfl (li k 0 (by omega))

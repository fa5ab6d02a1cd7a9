/-! INSPECTING says the same of both sides -/
theorem inQ_e {n : Nat} {Bc Br : Nat → Bk} (e : lwR n Bc Br) (m : Nat) (M : List Nat) : inQ Br m M = inQ Bc m M := plD_congr (fun j _ _ => by rw [(e j).1])
theorem inK_e {n : Nat} {Bc Br : Nat → Bk} (e : lwR n Bc Br) (m : Nat) (M : List Nat) : inK Br m M = inK Bc m M := plD_congr (fun j _ _ => by rw [(e j).1])
theorem rhF_e {n : Nat} {Bc Br : Nat → Bk} (e : lwR n Bc Br) (M : List Nat) (q : Nat) : rhF Br M q = rhF Bc M q := by
  unfold rhF
  rw [(e q).2.2.2.2, dueB_e e, mdF_e e]
theorem inF_e {n : Nat} {Bc Br : Nat → Bk} (e : lwR n Bc Br) (m : Nat) (M : List Nat) : inF Br m M = inF Bc m M := by
  unfold inF
  rw [inQ_e e, inK_e e, rhF_e e, (e _).2.2.1]

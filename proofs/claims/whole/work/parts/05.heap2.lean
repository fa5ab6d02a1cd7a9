/-! ROWS OF THE HEAP: fields written, rows read and written, returns -/
theorem ks_single {D : va_G} {q : Nat × va_E} {H : Heap} (h : va_at D vwCl q H) : va_P D vwCl [q] H := fun j x hx => by
  cases j with
  | zero => cases hx; exact h
  | succ j => cases hx
theorem ks_v_rf (G : ks_G) (r : Option Nat) : ks_v G (va_rf r) = va_rf (r.map (ks_ad G)) := by cases r <;> rfl
section KsH2
variable {l : Launch} {G : ks_G} {M : ks_M} {d pc pc' : Nat} {lv : List (Nat × Value)} {st st' : List Value} {S S1 : ks_S} {P : Option Value → ks_S → Prop}
/-- putfield -/
theorem ks_putf {a ci N ix kf : Nat} {C ref : String} {T : u_T} {ty0 : Nat → FieldType} {ty : FieldType} {fs : List Value} {v0 : Value} (hw : Cond.fieldLink M.1 ix ref (T kf).2.1 (T kf).2.2.1 ∈ lw_tbl) (hr : (T kf).1 = ref) (hin : ∀ w ∈ u_ws C T N, w ∈ lw_tbl ∧ goodWord w = true) (hty : ∀ k, k < N → parseFieldDescriptor (T k).2.2.1 = some (ty0 k)) (hnm : ∀ a, a < N → ∀ b, b < N → a ≠ b → (T a).2.1 ≠ (T b).2.1) (hc : vwCl[ci]? = some (C, T, N)) (hk : kf < N) (hS : S.2.2 a = some (.inr (ci, fs))) (hl : kf < fs.length) (hfin : (T kf).2.2.2 = false) (hd0 : ty0 kf = ty) (hn : narrow ty (ks_v G v0) = ks_v G v0) (hfit : fits ty (ks_v G v0) = true) (hd : decode M.2.1 pc = .ok (.putfield ix, 3)) (hp : pc + 3 = pc') (k : ks_X l G M d pc' lv st (ks_set S a (.inr (ci, fs.set kf v0))) P) : ks_X l G M d pc lv (v0 :: .ref a :: st) S P := by
  subst hp
  subst hr
  refine ks_write (S1 := ks_set S a (.inr (ci, fs.set kf v0))) rfl rfl (fun p e R s m args below meth c H locs cells slots ls Q CC hH hS0 hls k => ?_) k
  obtain ⟨h1, h2, r, h4, cell, q1, q2, q3, q4⟩ := ks_lt hH hS
  have hr : r = (C, T, N) := Option.some.inj (h4.symm.trans hc)
  subst hr
  have hts : ∀ w ∈ u_ws C T N, w.before args s = true := fun w hw => CC.2.2.2.2.2.1 w (hin w hw).1 (hin w hw).2
  have hK := CC.2.2.2.2.2.2.2.2.1.1
  have hap := va_apart (own := M.1) hts (fun _ h => h) ty0 hty hnm hK hc
  obtain ⟨hSl, hfc, kC, hkC, hkind⟩ := hK.1 ci _ hc
  obtain ⟨cf, kf', fi, f, hi, hsl⟩ := hSl kf hk
  have hlay := hts _ (u_in_lay hk)
  unfold u_lay at hlay
  rw [if_neg (by rw [hfin]; decide)] at hlay
  have hst := (u_facts hfc hkC (u_lays hts (fun _ h => h) hk) hi).1
  have h6 := u_store hfc hkC hkind hlay hi ((hty kf hk).trans (congrArg some hd0)) hn hfit
  show W p l e R s m args below meth c H locs cells slots Q (F0 m pc ls (ks_v G v0 :: .ref (ks_ad G a) :: st.map (ks_v G)))
  rw [h2]
  refine W.putK CC.1 CC.2.1 (f := f) ⟨CC.2.2.2.2.1, CC.2.2.2.2.2.1 _ hw rfl, ⟨_, _, _, hi⟩, hst⟩ (by rw [q2]; exact h6) q1 q3 (by rw [hsl]; exact k2_hasslot (q4 kf hk)) rfl rfl hd fun H' e1 e2 e3 => ?_
  rw [hsl] at e1 ⊢
  refine k H' _ (hH.set h1 e2 e3 ?_) (hS0.put e2 e3 (Nat.le_add_right _ _))
  refine ⟨_, hc, t_OB.to (V := updV (vp_V (fs.map (ks_v G))) kf (ks_v G v0)) ⟨_, e1, q2, q3, t_set q4 hap hk _⟩ (fun j _ => ?_)⟩
  rw [vp_updV_set (by rw [List.length_map]; exact hl), List.map_set]
/-- putfield of a nest mate's private field -/
theorem ks_putN {a ci N ix kf : Nat} {C ref host : String} {T : u_T} {ty0 : Nat → FieldType} {ty : FieldType} {fs : List Value} {v0 : Value} (hw : Cond.fieldLinkNest M.1 ix ref (T kf).2.1 (T kf).2.2.1 host ∈ lw_tbl) (hr : (T kf).1 = ref) (hin : ∀ w ∈ u_ws C T N, w ∈ lw_tbl ∧ goodWord w = true) (hty : ∀ k, k < N → parseFieldDescriptor (T k).2.2.1 = some (ty0 k)) (hnm : ∀ a, a < N → ∀ b, b < N → a ≠ b → (T a).2.1 ≠ (T b).2.1) (hc : vwCl[ci]? = some (C, T, N)) (hk : kf < N) (hS : S.2.2 a = some (.inr (ci, fs))) (hl : kf < fs.length) (hfin : (T kf).2.2.2 = false) (hd0 : ty0 kf = ty) (hn : narrow ty (ks_v G v0) = ks_v G v0) (hfit : fits ty (ks_v G v0) = true) (hd : decode M.2.1 pc = .ok (.putfield ix, 3)) (hp : pc + 3 = pc') (k : ks_X l G M d pc' lv st (ks_set S a (.inr (ci, fs.set kf v0))) P) : ks_X l G M d pc lv (v0 :: .ref a :: st) S P := by
  subst hp
  subst hr
  refine ks_write (S1 := ks_set S a (.inr (ci, fs.set kf v0))) rfl rfl (fun p e R s m args below meth c H locs cells slots ls Q CC hH hS0 hls k => ?_) k
  obtain ⟨h1, h2, r, h4, cell, q1, q2, q3, q4⟩ := ks_lt hH hS
  have hr : r = (C, T, N) := Option.some.inj (h4.symm.trans hc)
  subst hr
  have hts : ∀ w ∈ u_ws C T N, w.before args s = true := fun w hw => CC.2.2.2.2.2.1 w (hin w hw).1 (hin w hw).2
  have hK := CC.2.2.2.2.2.2.2.2.1.1
  have hap := va_apart (own := M.1) hts (fun _ h => h) ty0 hty hnm hK hc
  obtain ⟨hSl, hfc, kC, hkC, hkind⟩ := hK.1 ci _ hc
  obtain ⟨cf, kf', fi, f, hi, hsl⟩ := hSl kf hk
  have hlay := hts _ (u_in_lay hk)
  unfold u_lay at hlay
  rw [if_neg (by rw [hfin]; decide)] at hlay
  have hst := (u_facts hfc hkC (u_lays hts (fun _ h => h) hk) hi).1
  have h6 := u_store hfc hkC hkind hlay hi ((hty kf hk).trans (congrArg some hd0)) hn hfit
  show W p l e R s m args below meth c H locs cells slots Q (F0 m pc ls (ks_v G v0 :: .ref (ks_ad G a) :: st.map (ks_v G)))
  rw [h2]
  refine va_WputK CC.1 CC.2.1 (f := f) CC.2.2.2.2.1 (va_Nw.use rfl (CC.2.2.2.2.2.2.2.2.1.2.1 _ hw rfl)) hi hst (by rw [q2]; exact h6) q1 q3 (by rw [hsl]; exact k2_hasslot (q4 kf hk)) rfl rfl hd fun H' e1 e2 e3 => ?_
  rw [hsl] at e1 ⊢
  refine k H' _ (hH.set h1 e2 e3 ?_) (hS0.put e2 e3 (Nat.le_add_right _ _))
  refine ⟨_, hc, t_OB.to (V := updV (vp_V (fs.map (ks_v G))) kf (ks_v G v0)) ⟨_, e1, q2, q3, t_set q4 hap hk _⟩ (fun j _ => ?_)⟩
  rw [vp_updV_set (by rw [List.length_map]; exact hl), List.map_set]
/-- putfield of a final field, in a constructor -/
theorem ks_putF {a ci N ix kf : Nat} {C ref : String} {T : u_T} {ty0 : Nat → FieldType} {ty : FieldType} {fs : List Value} {v0 : Value} (hw : Cond.fieldLink M.1 ix ref (T kf).2.1 (T kf).2.2.1 ∈ lw_tbl) (hr : (T kf).1 = ref) (ho : M.1 = ref) (hi2 : M.2.2.2.2 = "<init>") (hin : ∀ w ∈ u_ws C T N, w ∈ lw_tbl ∧ goodWord w = true) (hty : ∀ k, k < N → parseFieldDescriptor (T k).2.2.1 = some (ty0 k)) (hnm : ∀ a, a < N → ∀ b, b < N → a ≠ b → (T a).2.1 ≠ (T b).2.1) (hc : vwCl[ci]? = some (C, T, N)) (hk : kf < N) (hS : S.2.2 a = some (.inr (ci, fs))) (hl : kf < fs.length) (hfin : (T kf).2.2.2 = true) (hd0 : ty0 kf = ty) (hn : narrow ty (ks_v G v0) = ks_v G v0) (hfit : fits ty (ks_v G v0) = true) (hd : decode M.2.1 pc = .ok (.putfield ix, 3)) (hp : pc + 3 = pc') (k : ks_X l G M d pc' lv st (ks_set S a (.inr (ci, fs.set kf v0))) P) : ks_X l G M d pc lv (v0 :: .ref a :: st) S P := by
  subst hp
  subst hr
  refine ks_write (S1 := ks_set S a (.inr (ci, fs.set kf v0))) rfl rfl (fun p e R s m args below meth c H locs cells slots ls Q CC hH hS0 hls k => ?_) k
  obtain ⟨h1, h2, r, h4, cell, q1, q2, q3, q4⟩ := ks_lt hH hS
  have hr : r = (C, T, N) := Option.some.inj (h4.symm.trans hc)
  subst hr
  have hts : ∀ w ∈ u_ws C T N, w.before args s = true := fun w hw => CC.2.2.2.2.2.1 w (hin w hw).1 (hin w hw).2
  have hK := CC.2.2.2.2.2.2.2.2.1.1
  have hap := va_apart (own := M.1) hts (fun _ h => h) ty0 hty hnm hK hc
  obtain ⟨hSl, hfc, kC, hkC, hkind⟩ := hK.1 ci _ hc
  obtain ⟨cf, kf', fi, f, hi, hsl⟩ := hSl kf hk
  have hlay := hts _ (u_in_lay hk)
  unfold u_lay at hlay
  rw [if_pos hfin] at hlay
  have hst := (u_facts hfc hkC (u_lays hts (fun _ h => h) hk) hi).1
  have hcf : m.cls = cf := by
    obtain ⟨_, _, c', _, _, _, -, -, hf', -, -, -, hown2, -⟩ := Cond.laysFinal_spec hlay
    have e1 : c' = cf := by have := hi.symm.trans hf'; simp at this; exact this.1.symm
    rw [← ho] at hown2
    rw [← e1]
    exact Option.some.inj (CC.2.2.2.2.1.symm.trans hown2)
  have h6 := u_fits hfc hkC hkind (Or.inr hlay) hi ((hty kf hk).trans (congrArg some hd0)) hn hfit
  show W p l e R s m args below meth c H locs cells slots Q (F0 m pc ls (ks_v G v0 :: .ref (ks_ad G a) :: st.map (ks_v G)))
  rw [h2]
  refine W.putFinK CC.1 CC.2.1 CC.2.2.2.2.1 (CC.2.2.2.2.2.1 _ hw rfl) hi hst hcf (CC.2.2.2.2.2.2.2.1.trans hi2) (by rw [q2]; exact h6) q1 q3 (by rw [hsl]; exact k2_hasslot (q4 kf hk)) rfl rfl hd fun H' e1 e2 e3 => ?_
  rw [hsl] at e1 ⊢
  refine k H' _ (hH.set h1 e2 e3 ?_) (hS0.put e2 e3 (Nat.le_add_right _ _))
  refine ⟨_, hc, t_OB.to (V := updV (vp_V (fs.map (ks_v G))) kf (ks_v G v0)) ⟨_, e1, q2, q3, t_set q4 hap hk _⟩ (fun j _ => ?_)⟩
  rw [vp_updV_set (by rw [List.length_map]; exact hl), List.map_set]
/-- rows read -/
theorem ks_iald {a n : Nat} {f : Nat → Int32} {i : Int32} (hS : S.2.2 a = some (.inl (1, n, .inl f))) (hi : vp_in i n) (hd : decode M.2.1 pc = .ok (.iaload, 1)) (hp : pc + 1 = pc') (k : ks_X l G M d pc' lv (.int (f i.toNatClampNeg) :: st) S P) : ks_X l G M d pc lv (.int i :: .ref a :: st) S P := by
  subst hp
  refine ks_read (fun p e R s m args below meth c H locs cells slots ls Q CC hH k => ?_) k
  show W p l e R s m args below meth c H locs cells slots Q (F0 m pc ls (.int i :: .ref (ks_ad G a) :: st.map (ks_v G)))
  rcases hH.2.2.1 a _ hS with ⟨h1, h2⟩ | ⟨j, q, ea, hq, he⟩
  · rw [ks_ad_lt (Nat.lt_of_lt_of_le h1 hH.2.1)]
    exact va_iald CC.1 CC.2.1 CC.2.2.2.2.2.2.2.2.1.1 (ks_single h2) 0 1 rfl rfl hi hd k
  · cases he
    have e1 : ks_ad G a = G.2.2.2 j := by
      subst ea
      unfold ks_ad
      rw [if_neg (by omega), Nat.add_sub_cancel_left]
    rw [e1]
    obtain ⟨cell, g1, g2, g3, g4, g5, g6, g7⟩ := (hH.2.2.2 j q hq).2
    have hlt : i.toNatClampNeg < q.2.2.length := Nat.not_le.mp fun z => hi (Or.inr z)
    exact W.iald CC.1 CC.2.1 g1 g2 g3 (fun z => z.elim (fun z => hi (Or.inl z)) (fun z => by omega)) (g6 _ hlt) rfl rfl hd k
theorem ks_bald {a n : Nat} {f : Nat → Int32} {i : Int32} (hS : S.2.2 a = some (.inl (0, n, .inl f))) (hi : vp_in i n) (hd : decode M.2.1 pc = .ok (.baload, 1)) (hp : pc + 1 = pc') (k : ks_X l G M d pc' lv (.int (f i.toNatClampNeg) :: st) S P) : ks_X l G M d pc lv (.int i :: .ref a :: st) S P := by
  subst hp
  refine ks_read (fun p e R s m args below meth c H locs cells slots ls Q CC hH k => ?_) k
  obtain ⟨h1, h2, h3⟩ := ks_ltT hH hS (by decide)
  show W p l e R s m args below meth c H locs cells slots Q (F0 m pc ls (.int i :: .ref (ks_ad G a) :: st.map (ks_v G)))
  rw [h2]
  exact va_bald CC.1 CC.2.1 CC.2.2.2.2.2.2.2.2.1.1 (ks_single h3) 0 0 rfl rfl hi hd k
theorem ks_zald {a n : Nat} {f : Nat → Int32} {i : Int32} (hS : S.2.2 a = some (.inl (3, n, .inl f))) (hi : vp_in i n) (hd : decode M.2.1 pc = .ok (.baload, 1)) (hp : pc + 1 = pc') (k : ks_X l G M d pc' lv (.int (f i.toNatClampNeg) :: st) S P) : ks_X l G M d pc lv (.int i :: .ref a :: st) S P := by
  subst hp
  refine ks_read (fun p e R s m args below meth c H locs cells slots ls Q CC hH k => ?_) k
  obtain ⟨h1, h2, h3⟩ := ks_ltT hH hS (by decide)
  show W p l e R s m args below meth c H locs cells slots Q (F0 m pc ls (.int i :: .ref (ks_ad G a) :: st.map (ks_v G)))
  rw [h2]
  exact va_zald CC.1 CC.2.1 CC.2.2.2.2.2.2.2.2.1.1 (ks_single h3) 0 3 rfl rfl hi hd k
theorem ks_lald {a n : Nat} {f : Nat → Int64} {i : Int32} (hS : S.2.2 a = some (.inl (2, n, .inr (.inl f)))) (hi : vp_in i n) (hd : decode M.2.1 pc = .ok (.laload, 1)) (hp : pc + 1 = pc') (k : ks_X l G M d pc' lv (.long (f i.toNatClampNeg) :: st) S P) : ks_X l G M d pc lv (.int i :: .ref a :: st) S P := by
  subst hp
  refine ks_read (fun p e R s m args below meth c H locs cells slots ls Q CC hH k => ?_) k
  obtain ⟨h1, h2, h3⟩ := ks_ltT hH hS (by decide)
  show W p l e R s m args below meth c H locs cells slots Q (F0 m pc ls (.int i :: .ref (ks_ad G a) :: st.map (ks_v G)))
  rw [h2]
  exact va_lald CC.1 CC.2.1 CC.2.2.2.2.2.2.2.2.1.1 (ks_single h3) 0 2 rfl rfl hi hd k
/-- rows of references: t from 4 on -/
theorem ks_aald {a n t : Nat} {g : Nat → Option Nat} {i : Int32} (ht : t = 4 ∨ t = 5 ∨ t = 6 ∨ t = 7) (hS : S.2.2 a = some (.inl (t, n, .inr (.inr (.inr (.inr g)))))) (hi : vp_in i n) (hd : decode M.2.1 pc = .ok (.aaload, 1)) (hp : pc + 1 = pc') (k : ks_X l G M d pc' lv (va_rf (g i.toNatClampNeg) :: st) S P) : ks_X l G M d pc lv (.int i :: .ref a :: st) S P := by
  subst hp
  refine ks_read (fun p e R s m args below meth c H locs cells slots ls Q CC hH k => ?_) k
  obtain ⟨h1, h2, h3⟩ := ks_ltT hH hS (by omega)
  show W p l e R s m args below meth c H locs cells slots Q (F0 m pc ls (.int i :: .ref (ks_ad G a) :: st.map (ks_v G)))
  rw [h2]
  have k2 : W p l e R s m args below meth c H locs cells slots Q (F0 m (pc + 1) ls (ks_v G (va_rf (g i.toNatClampNeg)) :: st.map (ks_v G))) := k
  rw [ks_v_rf] at k2
  have hlt : i.toNatClampNeg < n := Nat.not_le.mp fun q => hi (Or.inr q)
  have hK := CC.2.2.2.2.2.2.2.2.1.1
  have key : ∀ ty : FieldType, (ks_tys G)[t]? = some (G.2.1 t, ty) → ty.isReference = true → W p l e R s m args below meth c H locs cells slots Q (F0 m pc ls (.int i :: .ref (G.2.2.1 + a) :: st.map (ks_v G))) := fun ty h8 h9 =>
    W.aald (v := va_rf ((g i.toNatClampNeg).map (ks_ad G))) (ty := ty) CC.1 CC.2.1 h3 ((hK.2 t _ h8).1 n (fun j => va_rf ((g j).map (ks_ad G)))) h9 (fun q => by cases q) (by show ¬ (i < 0 ∨ (arrV (G.2.1 t) n (fun j => va_rf ((g j).map (ks_ad G)))).slots.size ≤ _); rw [arrV_size]; exact hi) (by show (arrV (G.2.1 t) n (fun j => va_rf ((g j).map (ks_ad G)))).slots[_]? = _; rw [arrV_read _ _ hlt]) rfl rfl hd k2
  rcases ht with rfl | rfl | rfl | rfl <;> exact key _ rfl rfl
/-- the length of a row -/
theorem ks_alen {a n t : Nat} {A : vp_A} (ht : t < 8) (hS : S.2.2 a = some (.inl (t, A))) (hn : A.1 = n) (hb : a < ks_B) (hd : decode M.2.1 pc = .ok (.arraylength, 1)) (hp : pc + 1 = pc') (k : ks_X l G M d pc' lv (.int (nI n) :: st) S P) : ks_X l G M d pc lv (.ref a :: st) S P := by
  subst hp
  subst hn
  refine ks_read (fun p e R s m args below meth c H locs cells slots ls Q CC hH k => ?_) k
  obtain ⟨h1, h2, h3⟩ := ks_ltA hH hS hb
  show W p l e R s m args below meth c H locs cells slots Q (F0 m pc ls (.ref (ks_ad G a) :: st.map (ks_v G)))
  rw [h2]
  have hK := CC.2.2.2.2.2.2.2.2.1.1
  have h8 : ∃ ty, (ks_tys G)[t]? = some (G.2.1 t, ty) := by
    have : t = 0 ∨ t = 1 ∨ t = 2 ∨ t = 3 ∨ t = 4 ∨ t = 5 ∨ t = 6 ∨ t = 7 := by omega
    rcases this with rfl | rfl | rfl | rfl | rfl | rfl | rfl | rfl <;> exact ⟨_, rfl⟩
  obtain ⟨ty, h8⟩ := h8
  have h9 : (ks_a G A).1 = A.1 := by
    obtain ⟨z, f | f | f | f | f⟩ := A <;> rfl
  rw [show nI A.1 = Int32.ofNat (ks_a G A).1 by rw [h9]; rfl] at k
  exact va_alen CC.1 CC.2.1 hK (ks_single h3) 0 t rfl h8 rfl hd k
end KsH2

/-! JUDGE: the reference from a good block on -/
theorem rchF_eq {Gp : Pt} {n : Nat} : ∀ (l : List Nat) (B : Nat → Bk) (R : List Nat), eqB B (rchF Gp n l B R).2.2
  | [], B, _ => eqB.rf B
  | b :: l, B, R => by
    unfold rchF
    split
    · exact (eqB.ck B b).trans (rchF_eq l (ckB B b) _)
    · intro i
      exact (sbL_D (n - b) b B i).1
/-- what the reference's chain finds -/
def rchT (n : Nat) (B : Nat → Bk) : Nat × List Nat × (Nat → Bk) := rchF gpG (n + 1) (upL B (n + 1) (n + 1)).reverse B []
theorem rqS.fin {S S5 : ks_S} {V V5 : Nat → Value} {F n best b5 : Nat} {B : Nat → Bk} {C C5 R : List Nat} {t : Nat} {D : Nat → dTx} {T : List Nat} {q : Nat} {dt : Int64} {rs : Nat} {fc : Nat → Nat} (h : rqS S V F n best B C R t D T q dt rs) (p : pbK [342] [48, 50] S S5 V V5) (v48 : V5 48 = .int (nI b5)) (hb : b5 < n) (v50 : V5 50 = .int (nI C5.length)) (e342 : S5.2.2 342 = some (kN 512 fc)) (hf : ∀ j, j < C5.length → fc j = C5.getD j 0) (hl : C5.length ≤ 400) (hm : ∀ x ∈ C5, rmK n B x) : rqS S5 V5 F n b5 B C5 R t D T q dt rs := by
  have W5 : rqW S5 V5 F gpG := h.1.ob p (by decide) (fun x hx => by rw [List.mem_singleton] at hx; exact Or.inr (Or.inl hx)) (fun x hx => by rw [List.mem_singleton] at hx; rw [hx]; exact ⟨_, e342, no52_ne rfl⟩)
  obtain ⟨-, ⟨bf, e341, hbf⟩, hrb, ⟨v47, -, -⟩, -, ⟨⟨fR, eR, hRr⟩, v52, lR, mR⟩, -, -, -, -, h565⟩ := id h
  exact ⟨W5, ⟨bf, p.1.at e341 (by decide), hbf⟩, hrb.up p.1 (by decide), ⟨(p.2.2 47 (by decide)).trans v47, v48, hb⟩, ⟨⟨fc, e342, hf⟩, v50, hl, hm⟩, ⟨⟨fR, p.1.at eR (by decide), hRr⟩, (p.2.2 52 (by decide)).trans v52, lR, mR⟩, h.dr p (by decide) (by decide), h.tp p (by decide) (by decide), h.pq p (by decide), h.p5 p (by decide), by rw [p.1.1]; exact h565⟩
theorem kO_T {g : Nat → Nat} {T : List Nat} (kg : kO g) (e : T = bytL g 0 T.length) : kO (mg T) := fun j => by
  by_cases c : j < T.length
  · rw [← bytL_mg e c]; exact kg j
  · unfold mg
    rw [List.getD_eq_getElem?_getD, List.getElem?_eq_none (by omega)]
    decide
set_option maxHeartbeats 1600000 in
theorem rj_K {l : Launch} {G : ks_G} {S : ks_S} {V : Nat → Value} {F n best p : Nat} {Bc Br : Nat → Bk} {C R : List Nat} {t : Nat} {D : Nat → dTx} {T : List Nat} {q : Nat} {dt : Int64} {rs : Nat} {g : Nat → Nat} (hR : rqS S V F n best Br C R t D [] q dt rs) (hr : S.1 + F + 30 < ks_B) (hK : kkK n best Bc Br C) (eR : lwR n Bc Br) (hin : inF Br n T = nI 0) (hq : inQ Br n T = p + 1) (hp : p < n) (h531 : S.2.2 531 = some (kB 1600 g)) (kg : kO g) (hg : ∀ j, j < T.length → g j = mg T j) (hTl : T.length ≤ 1600) (kT : kO (mg T)) {P9 : Option Value → ks_S → Prop} (kF : ∀ (S1 : ks_S) (V1 : Nat → Value), n = 60 → rqS S1 V1 F n best Br C R t D [] q dt rs → pbK [] [111] S S1 V V1 → V1 111 = .int (nI 2) → P9 (some (.int (nI 0))) S1) (k1 : ∀ (S2 : ks_S) (V2 : Nat → Value), n < 60 → rqS S2 V2 F (n + 1) best (va_up Br n (rkB Br T p S.1)) C R t D [] q dt rs → frS rfN S S2 → (S2.1 = S.1 + 12 ∧ S2.2.1 = S.2.1 + 2114) → V2 111 = V 111 → bkW (rkB Br T p S.1) ≤ bkW (Br best) → P9 (some (.int (nI 1))) S2) (kC : ∀ (S4 : ks_S) (V4 : Nat → Value) (F3 : Nat) (R3 : List Nat), n < 60 → bkW (Br best) < bkW (rkB Br T p S.1) → (rchT n (va_up Br n (rkB Br T p S.1))).1 ≠ 0 → rqS S4 V4 F3 (n + 1) best (rchT n (va_up Br n (rkB Br T p S.1))).2.2 C R3 t D [] q dt (rchT n (va_up Br n (rkB Br T p S.1))).1 → frS (nmL n Br ++ rfN) S S4 → (S4.1 + F3 = S.1 + 12 + F ∧ S4.2.1 + 520 * F3 = S.2.1 + 2114 + 520 * F ∧ S.1 ≤ S4.1) → V4 111 = .int (nI 1) → P9 (some (.int (nI 0))) S4) (k0 : ∀ (S5 : ks_S) (V5 : Nat → Value) (F3 : Nat) (R3 : List Nat), n < 60 → bkW (Br best) < bkW (rkB Br T p S.1) → (rchT n (va_up Br n (rkB Br T p S.1))).1 = 0 → rqS S5 V5 F3 (n + 1) n (rchT n (va_up Br n (rkB Br T p S.1))).2.2 (rchT n (va_up Br n (rkB Br T p S.1))).2.1 R3 t D [] q dt rs → frS (nmL n Br ++ rfN) S S5 → (S5.1 + F3 = S.1 + 12 + F ∧ S5.2.1 + 520 * F3 = S.2.1 + 2114 + 520 * F ∧ S.1 ≤ S5.1) → V5 111 = V 111 → P9 (some (.int (nI (if p = best then 0 else 2)))) S5) : ks_X l G mX16_judge (2 + 15) 172 [(0, .ref 290), (1, .int (nI T.length)), (2, .int (nI p))] [] S P9 := by
  obtain ⟨⟨hn60, hbe⟩, hm, ⟨cW, cS, cC, cV, bV, cB, cP⟩, tB, hDi, ⟨rH, rD⟩, hsm, hkc, h00, r0, L0, eC0, hrel⟩ := id hK
  obtain ⟨g1, g2, g3, g4, g5⟩ := in_good hin
  rw [hq, Nat.add_sub_cancel] at g4 g5
  have nw := hR.1.nw.1
  have bVr : blV n Br := blV_e bV hm
  have cVr : chV n Br := chV_e cV hm
  have hdr : ∀ b, b < n → inD (bkM (Br b)) := fun b hb => by rw [(hm b).1]; exact hDi b hb
  have gI := inF_0 hin
  have hH : bkH (rkB Br T p S.1) < 700 := by
    show bkH (Br p) + 1 < 700
    rw [(hm p).2]
    have := (tB p hp).1
    omega
  obtain ⟨v1, v2, v3⟩ := kp_all (b := 0) (p := 0) (D := rkB Br T p S.1) bVr cVr hdr ⟨hTl, g1, kT⟩ rfl hH gI (inD_of kT g5)
  have hW1 : chW (n + 1) (va_up Br n (rkB Br T p S.1)) := (cW.eq eR).keep (by omega) ⟨by show 0 < p + 1; omega, by show p + 1 ≤ n; omega⟩
  have hD1 : rbD (n + 1) (va_up Br n (rkB Br T p S.1)) := rbD_k rD hR.2.2.1 nw rfl
  have hQ : ∀ B', eqB (va_up Br n (rkB Br T p S.1)) B' → ∀ b, b < n + 1 → cnQ B' b (rwQ (n + 1) (va_up Br n (rkB Br T p S.1))) := fun B' e b hb => cnQ_e (fun i => ⟨(e i).2.1, (e i).2.2.2.1⟩) (cnQ_of v1 v2 v3 hb)
  have hQ0 : rwQ (n + 1) (va_up Br n (rkB Br T p S.1)) [] := ⟨fun i j hi => absurd hi (Nat.not_lt_zero _), fun x hx => by cases hx⟩
  obtain ⟨bf, e341, hbf⟩ := hR.2.1
  obtain ⟨fp, e360⟩ : ∃ f, S.2.2 360 = some (kN 61 f) := hR.1.s (p := (360, 1, 61)) (by decide)
  obtain ⟨⟨fC, eC, hC⟩, v50, lC, mC⟩ := hR.2.2.2.2.1
  obtain ⟨h343, v52, lR, mR⟩ := hR.2.2.2.2.2.1
  have hlen := rchF_len (Gp := gpG) (n := n + 1) (upL (va_up Br n (rkB Br T p S.1)) (n + 1) (n + 1)).reverse (va_up Br n (rkB Br T p S.1)) [] (fun B' e b hb => hQ B' e b (upL_mem hW1 (n + 1) (n + 1) (Nat.le_refl _) b (List.mem_reverse.mp hb))) hQ0 (Nat.zero_le _)
  have zB : S.1 < ks_B := by omega
  refine l_jgK9 (d := 2) (Q := rwQ (n + 1) (va_up Br n (rkB Br T p S.1))) hR.1.mq nw hR.2.2.2.2.2.2.2.2.2.2 hr e341 hR.2.2.1 hbf hR.2.2.2.1.1 hR.2.2.2.1.2.1 hbe hn60 h531 kg hTl hg g1 hR.1.rw hp g2 h343 v52 lR mR e360 eC hQ hQ0 (fun i hi => (v2 i hi).1) (fun b t9 hb ht => (of_decide_eq_true ((v2 b hb).2.2 t9 ht)).2) (fun b hb => (v2 b hb).2.1) hW1 hD1 (fun h => (hlen h).2) (fun S1 V1 e k h => ?_) (fun S2 V2 hn k hw => ?_) (fun S2 S3 S4 V2 V3 V4 F3 R3 hn k hw kr rc hne p4 w55 w111 => ?_) (fun S2 S3 S5 V2 V3 V5 F3 fc5 hn k hw kr h0 p5 rc w48 w50 e5 hf5 => ?_)
  · exact kF S1 V1 e (hR.no k (fun x hx => by rw [List.mem_singleton] at hx; exact Or.inl hx)) k h
  · exact k1 S2 V2 hn (hR.kp hbf k) (fr_kp k.1) ⟨k.1.1.1, k.1.1.2.1⟩ (k.1.2.2.1.2.2 111 (by omega)) hw
  · have h2 := hR.kp hbf k
    have eq3 := rchF_eq (Gp := gpG) (n := n + 1) (upL (va_up Br n (rkB Br T p S.1)) (n + 1) (n + 1)).reverse (va_up Br n (rkB Br T p S.1)) []
    have h3 := h2.ch kr.1 kr.2 rc (fun i => (eq3 i).2.1)
    have h4 := h3.pb p4 (h3.1.ob p4 (by decide) (fun x hx => by cases hx) (fun x hx => by cases hx)) (fun x hx => by cases hx) (by decide) (h3.dr p4 (fun x hx => by cases hx) (by decide)) (h3.tp p4 (by decide) (by decide)) (h3.pq p4 (by decide)) w55
    have f3 := fr_ch (V := V) (fr_kp k.1) nw zB rfl kr.1
    have c1 := k.1.1.1
    have c2 := k.1.1.2.1
    have c3 := kr.1.1.1
    have c4 : S4.1 = S3.1 := p4.1.1
    have c5 : S4.2.1 = S3.2.1 := p4.1.2.1
    exact kC S4 V4 F3 R3 hn hw hne h4 (fun a e a1 a2 a3 => p4.1.at (f3 a e a1 a2 a3) (fun hm => by
      rw [List.mem_singleton] at hm
      exact a2 (List.mem_append_right _ (mem_rfN.mpr (by omega))))) ⟨by omega, by omega, by omega⟩ w111
  · have h2 := hR.kp hbf k
    have eq3 := rchF_eq (Gp := gpG) (n := n + 1) (upL (va_up Br n (rkB Br T p S.1)) (n + 1) (n + 1)).reverse (va_up Br n (rkB Br T p S.1)) []
    have h3 := h2.ch kr.1 kr.2 rc (fun i => (eq3 i).2.1)
    have h5 := h3.fin p5 w48 (by omega) w50 e5 hf5 (hlen h0).2 rc.2.2.2.2.2.2
    have f3 := fr_ch (V := V) (fr_kp k.1) nw zB rfl kr.1
    have c1 := k.1.1.1
    have c2 := k.1.1.2.1
    have c3 := kr.1.1.1
    have c4 : S5.1 = S3.1 := p5.1.1
    have c5 : S5.2.1 = S3.2.1 := p5.1.2.1
    exact k0 S5 V5 F3 _ hn hw h0 h5 (fun a e a1 a2 a3 => p5.1.at (f3 a e a1 a2 a3) (fun hm => by
      have : a = 290 ∨ a = 342 := by simpa using hm
      exact a2 (List.mem_append_right _ (mem_rfN.mpr (by omega))))) ⟨by omega, by omega, by omega⟩ (((p5.2.2 111 (by decide)).trans (kr.1.2 111 (by decide))).trans (k.1.2.2.1.2.2 111 (by omega)))

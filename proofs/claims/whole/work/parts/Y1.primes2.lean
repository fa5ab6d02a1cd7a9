/-! PRIMES: p and n -/
set_option maxRecDepth 100000 in
theorem pr_s1 : isPr 96557 ∧ isPr 7240687 ∧ isPr 305873 ∧ isPr 293 ∧ isPr 120233 ∧ isPr 85831 ∧ isPr 4681609 := ⟨pr_tr 400 (by decide) (by decide +kernel), pr_tr 3000 (by decide) (by decide +kernel), pr_tr 600 (by decide) (by decide +kernel), pr_tr 30 (by decide) (by decide +kernel), pr_tr 400 (by decide) (by decide +kernel), pr_tr 400 (by decide) (by decide +kernel), pr_tr 2400 (by decide) (by decide +kernel)⟩
theorem pr_s2 : isPr 107590001 := pr_tr 10500 (by decide) (by decide +kernel)
theorem pr_s3 : isPr 545358713 := pr_tr 23500 (by decide) (by decide +kernel)
theorem pr_s4 : isPr 44706919 := pr_tr 7000 (by decide) (by decide +kernel)
theorem pr_s5 : isPr 2 ∧ isPr 3 ∧ isPr 7 ∧ isPr 13441 ∧ isPr 149 ∧ isPr 631 := ⟨pr_tr 2 (by decide) (by decide +kernel), pr_tr 2 (by decide) (by decide +kernel), pr_tr 3 (by decide) (by decide +kernel), pr_tr 130 (by decide) (by decide +kernel), pr_tr 20 (by decide) (by decide +kernel), pr_tr 30 (by decide) (by decide +kernel)⟩
theorem pr_q2 : isPr 255515944373312847190720520512484175977 := pr_pocC (L := [107590001, 7240687, 96557]) (h := 49180540851747490927367427235911788886) (fun f hf => by
  rcases List.mem_cons.mp hf with e | hf
  · rw [e]; exact pr_s2
  rcases List.mem_cons.mp hf with e | hf
  · rw [e]; exact pr_s1.2.1
  rw [List.mem_singleton.mp hf]; exact pr_s1.1) (by decide +kernel) (by decide +kernel) (by decide +kernel) (by decide +kernel)
theorem pr_q1 : isPr 205115282021455665897114700593932402728804164701536103180137503955397371 := pr_pocC (L := [255515944373312847190720520512484175977]) (h := 53072002638256206696760401718638995221936714922431175139555783581918754) (fun f hf => by
  rw [List.mem_singleton.mp hf]; exact pr_q2) (by decide +kernel) (by decide +kernel) (by decide +kernel) (by decide +kernel)
theorem pr_r : isPr 29047611873442575647497758179 := pr_pocC (L := [545358713, 305873, 293]) (h := 12711458658905836767320859876) (fun f hf => by
  rcases List.mem_cons.mp hf with e | hf
  · rw [e]; exact pr_s3
  rcases List.mem_cons.mp hf with e | hf
  · rw [e]; exact pr_s1.2.2.1
  rw [List.mem_singleton.mp hf]; exact pr_s1.2.2.2.1) (by decide +kernel) (by decide +kernel) (by decide +kernel) (by decide +kernel)
theorem pr_f1 : isPr 341948486974166000522343609283189 := pr_pocC (L := [29047611873442575647497758179]) (h := 291782875431971620014836968593543) (fun f hf => by
  rw [List.mem_singleton.mp hf]; exact pr_r) (by decide +kernel) (by decide +kernel) (by decide +kernel) (by decide +kernel)
theorem pr_f2 : isPr 174723607534414371449 := pr_pocC (L := [44706919, 120233]) (h := 137705978603016281812) (fun f hf => by
  rcases List.mem_cons.mp hf with e | hf
  · rw [e]; exact pr_s4
  rw [List.mem_singleton.mp hf]; exact pr_s1.2.2.2.2.1) (by decide +kernel) (by decide +kernel) (by decide +kernel) (by decide +kernel)
theorem pr_f3 : isPr 107361793816595537 := pr_pocC (L := [4681609, 85831]) (h := 18633754915179990) (fun f hf => by
  rcases List.mem_cons.mp hf with e | hf
  · rw [e]; exact pr_s1.2.2.2.2.2.2
  rw [List.mem_singleton.mp hf]; exact pr_s1.2.2.2.2.2.1) (by decide +kernel) (by decide +kernel) (by decide +kernel) (by decide +kernel)
theorem pr_Pf {m : Nat} (hm : pP = m + 1) (a : Nat) (ha : a % pP ≠ 0) : a ^ m % pP = 1 := by
  have e : m = 115792089237316195423570985008687907853269984665640564039457584007908834671662 := by unfold pP at hm; omega
  exact pr_ferC (L := [2, 3, 7, 13441, 205115282021455665897114700593932402728804164701536103180137503955397371]) (h := 3) (fun f hf => by
    rcases List.mem_cons.mp hf with e | hf
    · rw [e]; exact pr_s5.1
    rcases List.mem_cons.mp hf with e | hf
    · rw [e]; exact pr_s5.2.1
    rcases List.mem_cons.mp hf with e | hf
    · rw [e]; exact pr_s5.2.2.1
    rcases List.mem_cons.mp hf with e | hf
    · rw [e]; exact pr_s5.2.2.2.1
    rw [List.mem_singleton.mp hf]; exact pr_q1) (by rw [e]; decide +kernel) (by decide +kernel) hm (by rw [e]; decide +kernel) (by rw [e]; decide +kernel) a ha
theorem pr_Nf {m : Nat} (hm : nN = m + 1) (a : Nat) (ha : a % nN ≠ 0) : a ^ m % nN = 1 := by
  have e : m = 115792089237316195423570985008687907852837564279074904382605163141518161494336 := by unfold nN at hm; omega
  exact pr_ferC (L := [2, 2, 2, 2, 2, 2, 3, 149, 631, 107361793816595537, 174723607534414371449, 341948486974166000522343609283189]) (h := 7) (fun f hf => by
    simp only [List.mem_cons, List.not_mem_nil, or_false] at hf
    rcases hf with e | e | e | e | e | e | e | e | e | e | e | e <;> rw [e]
    · exact pr_s5.1
    · exact pr_s5.1
    · exact pr_s5.1
    · exact pr_s5.1
    · exact pr_s5.1
    · exact pr_s5.1
    · exact pr_s5.2.1
    · exact pr_s5.2.2.2.2.1
    · exact pr_s5.2.2.2.2.2
    · exact pr_f3
    · exact pr_f2
    · exact pr_f1) (by rw [e]; decide +kernel) (by decide +kernel) hm (by rw [e]; decide +kernel) (by rw [e]; decide +kernel) a ha
theorem pP_2 : 2 ≤ pP := by decide +kernel
theorem nN_2 : 2 ≤ nN := by decide +kernel
theorem pr_P : isPr pP := pr_fpr (m := pP - 1) (by have := pP_2; omega) pP_2 (fun a ha => pr_Pf (by have := pP_2; omega) a ha)
theorem pr_N : isPr nN := pr_fpr (m := nN - 1) (by have := nN_2; omega) nN_2 (fun a ha => pr_Nf (by have := nN_2; omega) a ha)

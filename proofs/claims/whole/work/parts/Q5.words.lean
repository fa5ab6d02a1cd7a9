/-! THE REFERENCE: its constructor, rows of eight words -/
theorem row_lst {L : List Nat} : ks_row (L.map nI) = fun j => nI (lst L j) := by
  funext j
  unfold ks_row lst
  rw [List.getD_eq_getElem?_getD, List.getD_eq_getElem?_getD, List.getElem?_map]
  cases L[j]? <;> rfl
def fl_Pp : List (Nat × Int32) := [(0, (-977)), (1, (-2)), (2, (-1)), (3, (-1)), (4, (-1)), (5, (-1)), (6, (-1)), (7, (-1))]
set_option maxRecDepth 100000 in
set_option maxHeartbeats 800000 in
theorem l_inPp {l : Launch} {G : ks_G} {d : Nat} {S : ks_S} {lv : List (Nat × Value)} {st : List Value} (h9 : S.2.2 545 = some (kN 8 (fun _ => 0))) {P9 : Option Value → ks_S → Prop} (hk : ∀ S1 : ks_S, ks_up S S1 [545] → wA S1 545 pP → ks_X l G mX16_init d 2822 lv (.ref 545 :: st) S1 P9) : ks_X l G mX16_init d 2785 lv (.ref 545 :: st) S P9 := by
  have h8 : S.2.2 545 = some (kI 8 (fun _ => nI 0)) := h9
  refine ks_dup dX16_init_2785 rfl rfl ?_
  refine ks_iconst (x := nI 0) dX16_init_2786 (by decide) rfl ?_
  refine ks_sipush (x := (-977)) dX16_init_2787 (by decide) rfl ?_
  refine ks_iastN (i := 0) (by decide) h8 rfl (by decide) (by decide) dX16_init_2790 rfl ?_
  refine ks_dup dX16_init_2791 rfl rfl ?_
  refine ks_iconst (x := nI 1) dX16_init_2792 (by decide) rfl ?_
  refine ks_bipush (x := (-2)) dX16_init_2793 (by decide) rfl ?_
  refine ks_iastN (i := 1) (by decide) (ks_set_same _ _ _) rfl (by decide) (by decide) dX16_init_2795 rfl ?_
  refine ks_dup dX16_init_2796 rfl rfl ?_
  refine ks_iconst (x := nI 2) dX16_init_2797 (by decide) rfl ?_
  refine ks_iconst (x := (-1)) dX16_init_2798 (by decide) rfl ?_
  refine ks_iastN (i := 2) (by decide) (ks_set_same _ _ _) rfl (by decide) (by decide) dX16_init_2799 rfl ?_
  refine ks_dup dX16_init_2800 rfl rfl ?_
  refine ks_iconst (x := nI 3) dX16_init_2801 (by decide) rfl ?_
  refine ks_iconst (x := (-1)) dX16_init_2802 (by decide) rfl ?_
  refine ks_iastN (i := 3) (by decide) (ks_set_same _ _ _) rfl (by decide) (by decide) dX16_init_2803 rfl ?_
  refine ks_dup dX16_init_2804 rfl rfl ?_
  refine ks_iconst (x := nI 4) dX16_init_2805 (by decide) rfl ?_
  refine ks_iconst (x := (-1)) dX16_init_2806 (by decide) rfl ?_
  refine ks_iastN (i := 4) (by decide) (ks_set_same _ _ _) rfl (by decide) (by decide) dX16_init_2807 rfl ?_
  refine ks_dup dX16_init_2808 rfl rfl ?_
  refine ks_iconst (x := nI 5) dX16_init_2809 (by decide) rfl ?_
  refine ks_iconst (x := (-1)) dX16_init_2810 (by decide) rfl ?_
  refine ks_iastN (i := 5) (by decide) (ks_set_same _ _ _) rfl (by decide) (by decide) dX16_init_2811 rfl ?_
  refine ks_dup dX16_init_2812 rfl rfl ?_
  refine ks_bipush (x := nI 6) dX16_init_2813 (by decide) rfl ?_
  refine ks_iconst (x := (-1)) dX16_init_2815 (by decide) rfl ?_
  refine ks_iastN (i := 6) (by decide) (ks_set_same _ _ _) rfl (by decide) (by decide) dX16_init_2816 rfl ?_
  refine ks_dup dX16_init_2817 rfl rfl ?_
  refine ks_bipush (x := nI 7) dX16_init_2818 (by decide) rfl ?_
  refine ks_iconst (x := (-1)) dX16_init_2820 (by decide) rfl ?_
  refine ks_iastN (i := 7) (by decide) (ks_set_same _ _ _) rfl (by decide) (by decide) dX16_init_2821 rfl ?_
  refine ks_nm (fun T1 e9 => ?_)
  have u1 : ks_up S T1 [545] := by rw [e9]; exact ks_upL (ks_upL (ks_upL (ks_upL (ks_upL (ks_upL (ks_upL (ks_up_set _ _ (List.mem_singleton.mpr rfl)) (List.mem_singleton.mpr rfl)) (List.mem_singleton.mpr rfl)) (List.mem_singleton.mpr rfl)) (List.mem_singleton.mpr rfl)) (List.mem_singleton.mpr rfl)) (List.mem_singleton.mpr rfl)) (List.mem_singleton.mpr rfl)
  have f1 : T1.2.2 545 = some (kI 8 (filI (fun _ => nI 0) fl_Pp)) := by rw [e9]; exact ks_set_same _ _ _
  clear e9
  rw [row_z 8, filI_row fl_Pp _ (by decide +kernel), show fl_Pp.foldl (fun L p => L.set p.1 p.2) (List.replicate 8 (nI 0)) = ([4294966319, 4294967294, 4294967295, 4294967295, 4294967295, 4294967295, 4294967295, 4294967295] : List Nat).map nI from by decide +kernel, row_lst] at f1
  exact hk T1 u1 ⟨lst [4294966319, 4294967294, 4294967295, 4294967295, 4294967295, 4294967295, 4294967295, 4294967295], f1, by decide +kernel, by decide +kernel⟩
def fl_Nn : List (Nat × Int32) := [(0, (-801750719)), (1, (-1076732276)), (2, (-1354194885)), (3, (-1162945306)), (4, (-2)), (5, (-1)), (6, (-1)), (7, (-1))]
set_option maxRecDepth 100000 in
set_option maxHeartbeats 800000 in
theorem l_inNn {l : Launch} {G : ks_G} {d : Nat} {S : ks_S} {lv : List (Nat × Value)} {st : List Value} (h9 : S.2.2 546 = some (kN 8 (fun _ => 0))) {P9 : Option Value → ks_S → Prop} (hk : ∀ S1 : ks_S, ks_up S S1 [546] → wA S1 546 nN → ks_X l G mX16_init d 2870 lv (.ref 546 :: st) S1 P9) : ks_X l G mX16_init d 2827 lv (.ref 546 :: st) S P9 := by
  have h8 : S.2.2 546 = some (kI 8 (fun _ => nI 0)) := h9
  refine ks_dup dX16_init_2827 rfl rfl ?_
  refine ks_iconst (x := nI 0) dX16_init_2828 (by decide) rfl ?_
  refine ks_ldcw dX16_init_2829 kx_1851 rfl ?_
  refine ks_iastN (i := 0) (by decide) h8 rfl (by decide) (by decide) dX16_init_2832 rfl ?_
  refine ks_dup dX16_init_2833 rfl rfl ?_
  refine ks_iconst (x := nI 1) dX16_init_2834 (by decide) rfl ?_
  refine ks_ldcw dX16_init_2835 kx_1852 rfl ?_
  refine ks_iastN (i := 1) (by decide) (ks_set_same _ _ _) rfl (by decide) (by decide) dX16_init_2838 rfl ?_
  refine ks_dup dX16_init_2839 rfl rfl ?_
  refine ks_iconst (x := nI 2) dX16_init_2840 (by decide) rfl ?_
  refine ks_ldcw dX16_init_2841 kx_1853 rfl ?_
  refine ks_iastN (i := 2) (by decide) (ks_set_same _ _ _) rfl (by decide) (by decide) dX16_init_2844 rfl ?_
  refine ks_dup dX16_init_2845 rfl rfl ?_
  refine ks_iconst (x := nI 3) dX16_init_2846 (by decide) rfl ?_
  refine ks_ldcw dX16_init_2847 kx_1854 rfl ?_
  refine ks_iastN (i := 3) (by decide) (ks_set_same _ _ _) rfl (by decide) (by decide) dX16_init_2850 rfl ?_
  refine ks_dup dX16_init_2851 rfl rfl ?_
  refine ks_iconst (x := nI 4) dX16_init_2852 (by decide) rfl ?_
  refine ks_bipush (x := (-2)) dX16_init_2853 (by decide) rfl ?_
  refine ks_iastN (i := 4) (by decide) (ks_set_same _ _ _) rfl (by decide) (by decide) dX16_init_2855 rfl ?_
  refine ks_dup dX16_init_2856 rfl rfl ?_
  refine ks_iconst (x := nI 5) dX16_init_2857 (by decide) rfl ?_
  refine ks_iconst (x := (-1)) dX16_init_2858 (by decide) rfl ?_
  refine ks_iastN (i := 5) (by decide) (ks_set_same _ _ _) rfl (by decide) (by decide) dX16_init_2859 rfl ?_
  refine ks_dup dX16_init_2860 rfl rfl ?_
  refine ks_bipush (x := nI 6) dX16_init_2861 (by decide) rfl ?_
  refine ks_iconst (x := (-1)) dX16_init_2863 (by decide) rfl ?_
  refine ks_iastN (i := 6) (by decide) (ks_set_same _ _ _) rfl (by decide) (by decide) dX16_init_2864 rfl ?_
  refine ks_dup dX16_init_2865 rfl rfl ?_
  refine ks_bipush (x := nI 7) dX16_init_2866 (by decide) rfl ?_
  refine ks_iconst (x := (-1)) dX16_init_2868 (by decide) rfl ?_
  refine ks_iastN (i := 7) (by decide) (ks_set_same _ _ _) rfl (by decide) (by decide) dX16_init_2869 rfl ?_
  refine ks_nm (fun T1 e9 => ?_)
  have u1 : ks_up S T1 [546] := by rw [e9]; exact ks_upL (ks_upL (ks_upL (ks_upL (ks_upL (ks_upL (ks_upL (ks_up_set _ _ (List.mem_singleton.mpr rfl)) (List.mem_singleton.mpr rfl)) (List.mem_singleton.mpr rfl)) (List.mem_singleton.mpr rfl)) (List.mem_singleton.mpr rfl)) (List.mem_singleton.mpr rfl)) (List.mem_singleton.mpr rfl)) (List.mem_singleton.mpr rfl)
  have f1 : T1.2.2 546 = some (kI 8 (filI (fun _ => nI 0) fl_Nn)) := by rw [e9]; exact ks_set_same _ _ _
  clear e9
  rw [row_z 8, filI_row fl_Nn _ (by decide +kernel), show fl_Nn.foldl (fun L p => L.set p.1 p.2) (List.replicate 8 (nI 0)) = ([3493216577, 3218235020, 2940772411, 3132021990, 4294967294, 4294967295, 4294967295, 4294967295] : List Nat).map nI from by decide +kernel, row_lst] at f1
  exact hk T1 u1 ⟨lst [3493216577, 3218235020, 2940772411, 3132021990, 4294967294, 4294967295, 4294967295, 4294967295], f1, by decide +kernel, by decide +kernel⟩
def fl_X : List (Nat × Int32) := [(0, nI 385357720), (1, nI 1509065051), (2, nI 768485593), (3, nI 43777243), (4, (-830010617)), (5, nI 1436574357), (6, (-102974548)), (7, nI 2042521214)]
set_option maxRecDepth 100000 in
set_option maxHeartbeats 800000 in
theorem l_inX {l : Launch} {G : ks_G} {d : Nat} {S : ks_S} {lv : List (Nat × Value)} {st : List Value} (h9 : S.2.2 563 = some (kN 8 (fun _ => 0))) {P9 : Option Value → ks_S → Prop} (hk : ∀ S1 : ks_S, ks_up S S1 [563] → wA S1 563 55066263022277343669578718895168534326250603453777594175500187360389116729240 → ks_X l G mX16_init d 3035 lv (.ref 563 :: st) S1 P9) : ks_X l G mX16_init d 2985 lv (.ref 563 :: st) S P9 := by
  have h8 : S.2.2 563 = some (kI 8 (fun _ => nI 0)) := h9
  refine ks_dup dX16_init_2985 rfl rfl ?_
  refine ks_iconst (x := nI 0) dX16_init_2986 (by decide) rfl ?_
  refine ks_ldcw dX16_init_2987 kx_1929 rfl ?_
  refine ks_ti (y := nI 385357720) rfl ?_
  refine ks_iastN (i := 0) (by decide) h8 rfl (by decide) (by decide) dX16_init_2990 rfl ?_
  refine ks_dup dX16_init_2991 rfl rfl ?_
  refine ks_iconst (x := nI 1) dX16_init_2992 (by decide) rfl ?_
  refine ks_ldcw dX16_init_2993 kx_1930 rfl ?_
  refine ks_ti (y := nI 1509065051) rfl ?_
  refine ks_iastN (i := 1) (by decide) (ks_set_same _ _ _) rfl (by decide) (by decide) dX16_init_2996 rfl ?_
  refine ks_dup dX16_init_2997 rfl rfl ?_
  refine ks_iconst (x := nI 2) dX16_init_2998 (by decide) rfl ?_
  refine ks_ldcw dX16_init_2999 kx_1931 rfl ?_
  refine ks_ti (y := nI 768485593) rfl ?_
  refine ks_iastN (i := 2) (by decide) (ks_set_same _ _ _) rfl (by decide) (by decide) dX16_init_3002 rfl ?_
  refine ks_dup dX16_init_3003 rfl rfl ?_
  refine ks_iconst (x := nI 3) dX16_init_3004 (by decide) rfl ?_
  refine ks_ldcw dX16_init_3005 kx_1932 rfl ?_
  refine ks_ti (y := nI 43777243) rfl ?_
  refine ks_iastN (i := 3) (by decide) (ks_set_same _ _ _) rfl (by decide) (by decide) dX16_init_3008 rfl ?_
  refine ks_dup dX16_init_3009 rfl rfl ?_
  refine ks_iconst (x := nI 4) dX16_init_3010 (by decide) rfl ?_
  refine ks_ldcw dX16_init_3011 kx_1933 rfl ?_
  refine ks_iastN (i := 4) (by decide) (ks_set_same _ _ _) rfl (by decide) (by decide) dX16_init_3014 rfl ?_
  refine ks_dup dX16_init_3015 rfl rfl ?_
  refine ks_iconst (x := nI 5) dX16_init_3016 (by decide) rfl ?_
  refine ks_ldcw dX16_init_3017 kx_1934 rfl ?_
  refine ks_ti (y := nI 1436574357) rfl ?_
  refine ks_iastN (i := 5) (by decide) (ks_set_same _ _ _) rfl (by decide) (by decide) dX16_init_3020 rfl ?_
  refine ks_dup dX16_init_3021 rfl rfl ?_
  refine ks_bipush (x := nI 6) dX16_init_3022 (by decide) rfl ?_
  refine ks_ldcw dX16_init_3024 kx_1935 rfl ?_
  refine ks_iastN (i := 6) (by decide) (ks_set_same _ _ _) rfl (by decide) (by decide) dX16_init_3027 rfl ?_
  refine ks_dup dX16_init_3028 rfl rfl ?_
  refine ks_bipush (x := nI 7) dX16_init_3029 (by decide) rfl ?_
  refine ks_ldcw dX16_init_3031 kx_1936 rfl ?_
  refine ks_ti (y := nI 2042521214) rfl ?_
  refine ks_iastN (i := 7) (by decide) (ks_set_same _ _ _) rfl (by decide) (by decide) dX16_init_3034 rfl ?_
  refine ks_nm (fun T1 e9 => ?_)
  have u1 : ks_up S T1 [563] := by rw [e9]; exact ks_upL (ks_upL (ks_upL (ks_upL (ks_upL (ks_upL (ks_upL (ks_up_set _ _ (List.mem_singleton.mpr rfl)) (List.mem_singleton.mpr rfl)) (List.mem_singleton.mpr rfl)) (List.mem_singleton.mpr rfl)) (List.mem_singleton.mpr rfl)) (List.mem_singleton.mpr rfl)) (List.mem_singleton.mpr rfl)) (List.mem_singleton.mpr rfl)
  have f1 : T1.2.2 563 = some (kI 8 (filI (fun _ => nI 0) fl_X)) := by rw [e9]; exact ks_set_same _ _ _
  clear e9
  rw [row_z 8, filI_row fl_X _ (by decide +kernel), show fl_X.foldl (fun L p => L.set p.1 p.2) (List.replicate 8 (nI 0)) = ([385357720, 1509065051, 768485593, 43777243, 3464956679, 1436574357, 4191992748, 2042521214] : List Nat).map nI from by decide +kernel, row_lst] at f1
  exact hk T1 u1 ⟨lst [385357720, 1509065051, 768485593, 43777243, 3464956679, 1436574357, 4191992748, 2042521214], f1, by decide +kernel, by decide +kernel⟩
def fl_Y : List (Nat × Int32) := [(0, (-82783048)), (1, (-1673015153)), (2, (-1501211623)), (3, (-48778168)), (4, nI 235997352), (5, nI 1571093500), (6, nI 648266853), (7, nI 1211816567)]
set_option maxRecDepth 100000 in
set_option maxHeartbeats 800000 in
theorem l_inY {l : Launch} {G : ks_G} {d : Nat} {S : ks_S} {lv : List (Nat × Value)} {st : List Value} (h9 : S.2.2 564 = some (kN 8 (fun _ => 0))) {P9 : Option Value → ks_S → Prop} (hk : ∀ S1 : ks_S, ks_up S S1 [564] → wA S1 564 32670510020758816978083085130507043184471273380659243275938904335757337482424 → ks_X l G mX16_init d 3091 lv (.ref 564 :: st) S1 P9) : ks_X l G mX16_init d 3041 lv (.ref 564 :: st) S P9 := by
  have h8 : S.2.2 564 = some (kI 8 (fun _ => nI 0)) := h9
  refine ks_dup dX16_init_3041 rfl rfl ?_
  refine ks_iconst (x := nI 0) dX16_init_3042 (by decide) rfl ?_
  refine ks_ldcw dX16_init_3043 kx_1937 rfl ?_
  refine ks_iastN (i := 0) (by decide) h8 rfl (by decide) (by decide) dX16_init_3046 rfl ?_
  refine ks_dup dX16_init_3047 rfl rfl ?_
  refine ks_iconst (x := nI 1) dX16_init_3048 (by decide) rfl ?_
  refine ks_ldcw dX16_init_3049 kx_1938 rfl ?_
  refine ks_iastN (i := 1) (by decide) (ks_set_same _ _ _) rfl (by decide) (by decide) dX16_init_3052 rfl ?_
  refine ks_dup dX16_init_3053 rfl rfl ?_
  refine ks_iconst (x := nI 2) dX16_init_3054 (by decide) rfl ?_
  refine ks_ldcw dX16_init_3055 kx_1939 rfl ?_
  refine ks_iastN (i := 2) (by decide) (ks_set_same _ _ _) rfl (by decide) (by decide) dX16_init_3058 rfl ?_
  refine ks_dup dX16_init_3059 rfl rfl ?_
  refine ks_iconst (x := nI 3) dX16_init_3060 (by decide) rfl ?_
  refine ks_ldcw dX16_init_3061 kx_1940 rfl ?_
  refine ks_iastN (i := 3) (by decide) (ks_set_same _ _ _) rfl (by decide) (by decide) dX16_init_3064 rfl ?_
  refine ks_dup dX16_init_3065 rfl rfl ?_
  refine ks_iconst (x := nI 4) dX16_init_3066 (by decide) rfl ?_
  refine ks_ldcw dX16_init_3067 kx_1941 rfl ?_
  refine ks_ti (y := nI 235997352) rfl ?_
  refine ks_iastN (i := 4) (by decide) (ks_set_same _ _ _) rfl (by decide) (by decide) dX16_init_3070 rfl ?_
  refine ks_dup dX16_init_3071 rfl rfl ?_
  refine ks_iconst (x := nI 5) dX16_init_3072 (by decide) rfl ?_
  refine ks_ldcw dX16_init_3073 kx_1942 rfl ?_
  refine ks_ti (y := nI 1571093500) rfl ?_
  refine ks_iastN (i := 5) (by decide) (ks_set_same _ _ _) rfl (by decide) (by decide) dX16_init_3076 rfl ?_
  refine ks_dup dX16_init_3077 rfl rfl ?_
  refine ks_bipush (x := nI 6) dX16_init_3078 (by decide) rfl ?_
  refine ks_ldcw dX16_init_3080 kx_1943 rfl ?_
  refine ks_ti (y := nI 648266853) rfl ?_
  refine ks_iastN (i := 6) (by decide) (ks_set_same _ _ _) rfl (by decide) (by decide) dX16_init_3083 rfl ?_
  refine ks_dup dX16_init_3084 rfl rfl ?_
  refine ks_bipush (x := nI 7) dX16_init_3085 (by decide) rfl ?_
  refine ks_ldcw dX16_init_3087 kx_1944 rfl ?_
  refine ks_ti (y := nI 1211816567) rfl ?_
  refine ks_iastN (i := 7) (by decide) (ks_set_same _ _ _) rfl (by decide) (by decide) dX16_init_3090 rfl ?_
  refine ks_nm (fun T1 e9 => ?_)
  have u1 : ks_up S T1 [564] := by rw [e9]; exact ks_upL (ks_upL (ks_upL (ks_upL (ks_upL (ks_upL (ks_upL (ks_up_set _ _ (List.mem_singleton.mpr rfl)) (List.mem_singleton.mpr rfl)) (List.mem_singleton.mpr rfl)) (List.mem_singleton.mpr rfl)) (List.mem_singleton.mpr rfl)) (List.mem_singleton.mpr rfl)) (List.mem_singleton.mpr rfl)) (List.mem_singleton.mpr rfl)
  have f1 : T1.2.2 564 = some (kI 8 (filI (fun _ => nI 0) fl_Y)) := by rw [e9]; exact ks_set_same _ _ _
  clear e9
  rw [row_z 8, filI_row fl_Y _ (by decide +kernel), show fl_Y.foldl (fun L p => L.set p.1 p.2) (List.replicate 8 (nI 0)) = ([4212184248, 2621952143, 2793755673, 4246189128, 235997352, 1571093500, 648266853, 1211816567] : List Nat).map nI from by decide +kernel, row_lst] at f1
  exact hk T1 u1 ⟨lst [4212184248, 2621952143, 2793755673, 4246189128, 235997352, 1571093500, 648266853, 1211816567], f1, by decide +kernel, by decide +kernel⟩

/-! THE REFERENCE: its object -/
def rfL (V : Nat → Value) : List Value := [.ref 291, .ref 292, .ref 293, .ref 294, .ref 295, .ref 296, .ref 297, .ref 298, .ref 299, .ref 300, .ref 301, .ref 302, .ref 303, .ref 304, .ref 305, .ref 547, .ref 555, .ref 306, .ref 307, .ref 311, .ref 315, .ref 319, .ref 323, .ref 324, .ref 325, .ref 326, .ref 327, .ref 328, .ref 329, .ref 330, .ref 331, .ref 332, .ref 333, .ref 334, .ref 335, .ref 336, V 36, V 37, V 38, V 39, V 40, V 41, .ref 337, .ref 338, .ref 339, .ref 340, .ref 341, V 47, V 48, .ref 342, V 50, .ref 343, V 52, .ref 344, .ref 345, V 55, .ref 346, .ref 354, .ref 355, .ref 356, .ref 357, .ref 358, .ref 359, V 63, .ref 360, .ref 361, .ref 362, V 67, .ref 363, .ref 364, V 70, .ref 365, .ref 366, V 73, V 74, .ref 367, V 76, V 77, V 78, V 79, V 80, V 81, V 82, .ref 368, V 84, .ref 369, .ref 370, V 87, V 88, V 89, .ref 373, V 91, V 92, V 93, V 94, .ref 374, .ref 375, .ref 376, .ref 377, .ref 378, .ref 379, .ref 380, .ref 453, .ref 454, .ref 455, .ref 528, .ref 529, V 107, .ref 530, .ref 531, V 110, V 111, .ref 532, .ref 533, .ref 534, .ref 542, V 116, .ref 543, .ref 544]
abbrev rfE (V : Nat → Value) : ks_E := .inr (19, rfL V)
theorem ks_tv {l : Launch} {G : ks_G} {M : ks_M} {d pc : Nat} {lv : List (Nat × Value)} {st : List Value} {S : ks_S} {P : Option Value → ks_S → Prop} {v v' : Value} (h : v = v') (k : ks_X l G M d pc lv (v' :: st) S P) : ks_X l G M d pc lv (v :: st) S P := h ▸ k
theorem md_put {l : Launch} {G : ks_G} {M : ks_M} {d pc kf : Nat} {lv : List (Nat × Value)} {st : List Value} {S : ks_S} {P : Option Value → ks_S → Prop} {V : Nat → Value} {v : Value} (hset : ∀ V v, (rfL V).set kf v = rfL (va_up V kf v)) (k : ks_X l G M d pc lv st (ks_set S 290 (rfE (va_up V kf v))) P) : ks_X l G M d pc lv st (ks_set S 290 (.inr (19, (rfL V).set kf v))) P := by
  rw [hset]
  exact k
theorem mdp_36 (V : Nat → Value) (v : Value) : (rfL V).set 36 v = rfL (va_up V 36 v) := rfl
theorem mdp_37 (V : Nat → Value) (v : Value) : (rfL V).set 37 v = rfL (va_up V 37 v) := rfl
theorem mdp_38 (V : Nat → Value) (v : Value) : (rfL V).set 38 v = rfL (va_up V 38 v) := rfl
theorem mdp_39 (V : Nat → Value) (v : Value) : (rfL V).set 39 v = rfL (va_up V 39 v) := rfl
theorem mdp_40 (V : Nat → Value) (v : Value) : (rfL V).set 40 v = rfL (va_up V 40 v) := rfl
theorem mdp_41 (V : Nat → Value) (v : Value) : (rfL V).set 41 v = rfL (va_up V 41 v) := rfl
theorem mdp_47 (V : Nat → Value) (v : Value) : (rfL V).set 47 v = rfL (va_up V 47 v) := rfl
theorem mdp_48 (V : Nat → Value) (v : Value) : (rfL V).set 48 v = rfL (va_up V 48 v) := rfl
theorem mdp_50 (V : Nat → Value) (v : Value) : (rfL V).set 50 v = rfL (va_up V 50 v) := rfl
theorem mdp_52 (V : Nat → Value) (v : Value) : (rfL V).set 52 v = rfL (va_up V 52 v) := rfl
theorem mdp_55 (V : Nat → Value) (v : Value) : (rfL V).set 55 v = rfL (va_up V 55 v) := rfl
theorem mdp_63 (V : Nat → Value) (v : Value) : (rfL V).set 63 v = rfL (va_up V 63 v) := rfl
theorem mdp_67 (V : Nat → Value) (v : Value) : (rfL V).set 67 v = rfL (va_up V 67 v) := rfl
theorem mdp_70 (V : Nat → Value) (v : Value) : (rfL V).set 70 v = rfL (va_up V 70 v) := rfl
theorem mdp_73 (V : Nat → Value) (v : Value) : (rfL V).set 73 v = rfL (va_up V 73 v) := rfl
theorem mdp_74 (V : Nat → Value) (v : Value) : (rfL V).set 74 v = rfL (va_up V 74 v) := rfl
theorem mdp_76 (V : Nat → Value) (v : Value) : (rfL V).set 76 v = rfL (va_up V 76 v) := rfl
theorem mdp_77 (V : Nat → Value) (v : Value) : (rfL V).set 77 v = rfL (va_up V 77 v) := rfl
theorem mdp_78 (V : Nat → Value) (v : Value) : (rfL V).set 78 v = rfL (va_up V 78 v) := rfl
theorem mdp_79 (V : Nat → Value) (v : Value) : (rfL V).set 79 v = rfL (va_up V 79 v) := rfl
theorem mdp_80 (V : Nat → Value) (v : Value) : (rfL V).set 80 v = rfL (va_up V 80 v) := rfl
theorem mdp_81 (V : Nat → Value) (v : Value) : (rfL V).set 81 v = rfL (va_up V 81 v) := rfl
theorem mdp_82 (V : Nat → Value) (v : Value) : (rfL V).set 82 v = rfL (va_up V 82 v) := rfl
theorem mdp_84 (V : Nat → Value) (v : Value) : (rfL V).set 84 v = rfL (va_up V 84 v) := rfl
theorem mdp_87 (V : Nat → Value) (v : Value) : (rfL V).set 87 v = rfL (va_up V 87 v) := rfl
theorem mdp_88 (V : Nat → Value) (v : Value) : (rfL V).set 88 v = rfL (va_up V 88 v) := rfl
theorem mdp_89 (V : Nat → Value) (v : Value) : (rfL V).set 89 v = rfL (va_up V 89 v) := rfl
theorem mdp_91 (V : Nat → Value) (v : Value) : (rfL V).set 91 v = rfL (va_up V 91 v) := rfl
theorem mdp_92 (V : Nat → Value) (v : Value) : (rfL V).set 92 v = rfL (va_up V 92 v) := rfl
theorem mdp_93 (V : Nat → Value) (v : Value) : (rfL V).set 93 v = rfL (va_up V 93 v) := rfl
theorem mdp_94 (V : Nat → Value) (v : Value) : (rfL V).set 94 v = rfL (va_up V 94 v) := rfl
theorem mdp_107 (V : Nat → Value) (v : Value) : (rfL V).set 107 v = rfL (va_up V 107 v) := rfl
theorem mdp_110 (V : Nat → Value) (v : Value) : (rfL V).set 110 v = rfL (va_up V 110 v) := rfl
theorem mdp_111 (V : Nat → Value) (v : Value) : (rfL V).set 111 v = rfL (va_up V 111 v) := rfl
theorem mdp_116 (V : Nat → Value) (v : Value) : (rfL V).set 116 v = rfL (va_up V 116 v) := rfl
def tnI (x n : Int32) : Int32 := ks_sl x n ||| ks_ur x (32 - n)
set_option maxRecDepth 100000 in
set_option maxHeartbeats 800000 in
theorem c_md_turn {l : Launch} {G : ks_G} {d : Nat} {S : ks_S} {x n : Int32} : ks_P l G yX16_turn mX16_turn d [.int x, .int n] S (fun z S' => z = some (.int (tnI x n)) ∧ S' = S) := by
  refine ks_of (by decide) rfl rfl (Nat.le_of_ble_eq_true rfl) ?_
  show ks_X l G mX16_turn d 0 [(0, .int x), (1, .int n)] [] S _
  refine ks_iload_n dX16_turn_0 rfl rfl ?_
  refine ks_iload_n dX16_turn_1 rfl rfl ?_
  refine ks_ishl dX16_turn_2 rfl ?_
  refine ks_iload_n dX16_turn_3 rfl rfl ?_
  refine ks_bipush (x := nI 32) dX16_turn_4 (by decide) rfl ?_
  refine ks_iload_n dX16_turn_6 rfl rfl ?_
  refine ks_isub dX16_turn_7 rfl ?_
  refine ks_iushr dX16_turn_8 rfl ?_
  refine ks_ior dX16_turn_9 rfl ?_
  refine ks_iret rfl dX16_turn_10 ?_
  exact ⟨rfl, rfl⟩

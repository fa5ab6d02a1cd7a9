theorem cl_X1 : vwCl[4]? = some (RX1, TX1, 3) := rfl
theorem in_X1 : ∀ w ∈ u_ws RX1 TX1 3, w ∈ lw_tbl ∧ goodWord w = true := by decide +kernel
abbrev mX1_init : ks_M := (RX1, cX1_init, 2, none, "<init>")
theorem dX1_init_0 : decode cX1_init 0 = .ok (.aload_n 0, 1) := by decide +kernel
theorem dX1_init_1 : decode cX1_init 1 = .ok (.invokespecial 1, 3) := by decide +kernel
theorem dX1_init_4 : decode cX1_init 4 = .ok (.aload_n 0, 1) := by decide +kernel
theorem dX1_init_5 : decode cX1_init 5 = .ok (.iload_n 1, 1) := by decide +kernel
theorem dX1_init_6 : decode cX1_init 6 = .ok (.newarray .byte, 2) := by decide +kernel
theorem dX1_init_8 : decode cX1_init 8 = .ok (.putfield 7, 3) := by decide +kernel
theorem dX1_init_11 : decode cX1_init 11 = .ok (.return_, 1) := by decide +kernel
abbrev mX1_number : ks_M := (RX1, cX1_number, 6, (some .long), "number")
theorem dX1_number_0 : decode cX1_number 0 = .ok (.lconst 0, 1) := by decide +kernel
theorem dX1_number_1 : decode cX1_number 1 = .ok (.lstore_n 3, 1) := by decide +kernel
theorem dX1_number_2 : decode cX1_number 2 = .ok (.iload_n 2, 1) := by decide +kernel
theorem dX1_number_3 : decode cX1_number 3 = .ok (.iconst 1, 1) := by decide +kernel
theorem dX1_number_4 : decode cX1_number 4 = .ok (.isub, 1) := by decide +kernel
theorem dX1_number_5 : decode cX1_number 5 = .ok (.istore 5, 2) := by decide +kernel
theorem dX1_number_7 : decode cX1_number 7 = .ok (.iload 5, 2) := by decide +kernel
theorem dX1_number_9 : decode cX1_number 9 = .ok (.ifCond .lt 26, 3) := by decide +kernel
theorem dX1_number_12 : decode cX1_number 12 = .ok (.lload_n 3, 1) := by decide +kernel
theorem dX1_number_13 : decode cX1_number 13 = .ok (.bipush 8, 2) := by decide +kernel
theorem dX1_number_15 : decode cX1_number 15 = .ok (.lshl, 1) := by decide +kernel
theorem dX1_number_16 : decode cX1_number 16 = .ok (.aload_n 0, 1) := by decide +kernel
theorem dX1_number_17 : decode cX1_number 17 = .ok (.iload_n 1, 1) := by decide +kernel
theorem dX1_number_18 : decode cX1_number 18 = .ok (.iload 5, 2) := by decide +kernel
theorem dX1_number_20 : decode cX1_number 20 = .ok (.iadd, 1) := by decide +kernel
theorem dX1_number_21 : decode cX1_number 21 = .ok (.baload, 1) := by decide +kernel
theorem dX1_number_22 : decode cX1_number 22 = .ok (.sipush 255, 3) := by decide +kernel
theorem dX1_number_25 : decode cX1_number 25 = .ok (.iand, 1) := by decide +kernel
theorem dX1_number_26 : decode cX1_number 26 = .ok (.i2l, 1) := by decide +kernel
theorem dX1_number_27 : decode cX1_number 27 = .ok (.lor, 1) := by decide +kernel
theorem dX1_number_28 : decode cX1_number 28 = .ok (.lstore_n 3, 1) := by decide +kernel
theorem dX1_number_29 : decode cX1_number 29 = .ok (.iinc 5 (-1), 3) := by decide +kernel
theorem dX1_number_32 : decode cX1_number 32 = .ok (.goto (-25), 3) := by decide +kernel
theorem dX1_number_35 : decode cX1_number 35 = .ok (.lload_n 3, 1) := by decide +kernel
theorem dX1_number_36 : decode cX1_number 36 = .ok (.lreturn, 1) := by decide +kernel
abbrev mX1_clear : ks_M := (RX1, cX1_clear, 1, none, "clear")
theorem dX1_clear_0 : decode cX1_clear 0 = .ok (.aload_n 0, 1) := by decide +kernel
theorem dX1_clear_1 : decode cX1_clear 1 = .ok (.iconst 0, 1) := by decide +kernel
theorem dX1_clear_2 : decode cX1_clear 2 = .ok (.putfield 13, 3) := by decide +kernel
theorem dX1_clear_5 : decode cX1_clear 5 = .ok (.aload_n 0, 1) := by decide +kernel
theorem dX1_clear_6 : decode cX1_clear 6 = .ok (.iconst 0, 1) := by decide +kernel
theorem dX1_clear_7 : decode cX1_clear 7 = .ok (.putfield 17, 3) := by decide +kernel
theorem dX1_clear_10 : decode cX1_clear 10 = .ok (.return_, 1) := by decide +kernel
abbrev mX1_addNumber : ks_M := (RX1, cX1_addNumber, 5, none, "addNumber")
theorem dX1_addNumber_0 : decode cX1_addNumber 0 = .ok (.iload_n 3, 1) := by decide +kernel
theorem dX1_addNumber_1 : decode cX1_addNumber 1 = .ok (.aload_n 0, 1) := by decide +kernel
theorem dX1_addNumber_2 : decode cX1_addNumber 2 = .ok (.getfield 7, 3) := by decide +kernel
theorem dX1_addNumber_5 : decode cX1_addNumber 5 = .ok (.arraylength, 1) := by decide +kernel
theorem dX1_addNumber_6 : decode cX1_addNumber 6 = .ok (.aload_n 0, 1) := by decide +kernel
theorem dX1_addNumber_7 : decode cX1_addNumber 7 = .ok (.getfield 13, 3) := by decide +kernel
theorem dX1_addNumber_10 : decode cX1_addNumber 10 = .ok (.isub, 1) := by decide +kernel
theorem dX1_addNumber_11 : decode cX1_addNumber 11 = .ok (.if_icmp .le 9, 3) := by decide +kernel
theorem dX1_addNumber_14 : decode cX1_addNumber 14 = .ok (.aload_n 0, 1) := by decide +kernel
theorem dX1_addNumber_15 : decode cX1_addNumber 15 = .ok (.iconst 1, 1) := by decide +kernel
theorem dX1_addNumber_16 : decode cX1_addNumber 16 = .ok (.putfield 17, 3) := by decide +kernel
theorem dX1_addNumber_19 : decode cX1_addNumber 19 = .ok (.return_, 1) := by decide +kernel
theorem dX1_addNumber_20 : decode cX1_addNumber 20 = .ok (.iconst 0, 1) := by decide +kernel
theorem dX1_addNumber_21 : decode cX1_addNumber 21 = .ok (.istore 4, 2) := by decide +kernel
theorem dX1_addNumber_23 : decode cX1_addNumber 23 = .ok (.iload 4, 2) := by decide +kernel
theorem dX1_addNumber_25 : decode cX1_addNumber 25 = .ok (.iload_n 3, 1) := by decide +kernel
theorem dX1_addNumber_26 : decode cX1_addNumber 26 = .ok (.if_icmp .ge 30, 3) := by decide +kernel
theorem dX1_addNumber_29 : decode cX1_addNumber 29 = .ok (.aload_n 0, 1) := by decide +kernel
theorem dX1_addNumber_30 : decode cX1_addNumber 30 = .ok (.getfield 7, 3) := by decide +kernel
theorem dX1_addNumber_33 : decode cX1_addNumber 33 = .ok (.aload_n 0, 1) := by decide +kernel
theorem dX1_addNumber_34 : decode cX1_addNumber 34 = .ok (.getfield 13, 3) := by decide +kernel
theorem dX1_addNumber_37 : decode cX1_addNumber 37 = .ok (.iload 4, 2) := by decide +kernel
theorem dX1_addNumber_39 : decode cX1_addNumber 39 = .ok (.iadd, 1) := by decide +kernel
theorem dX1_addNumber_40 : decode cX1_addNumber 40 = .ok (.lload_n 1, 1) := by decide +kernel
theorem dX1_addNumber_41 : decode cX1_addNumber 41 = .ok (.bipush 8, 2) := by decide +kernel
theorem dX1_addNumber_43 : decode cX1_addNumber 43 = .ok (.iload 4, 2) := by decide +kernel
theorem dX1_addNumber_45 : decode cX1_addNumber 45 = .ok (.imul, 1) := by decide +kernel
theorem dX1_addNumber_46 : decode cX1_addNumber 46 = .ok (.lushr, 1) := by decide +kernel
theorem dX1_addNumber_47 : decode cX1_addNumber 47 = .ok (.l2i, 1) := by decide +kernel
theorem dX1_addNumber_48 : decode cX1_addNumber 48 = .ok (.i2b, 1) := by decide +kernel
theorem dX1_addNumber_49 : decode cX1_addNumber 49 = .ok (.bastore, 1) := by decide +kernel
theorem dX1_addNumber_50 : decode cX1_addNumber 50 = .ok (.iinc 4 1, 3) := by decide +kernel
theorem dX1_addNumber_53 : decode cX1_addNumber 53 = .ok (.goto (-30), 3) := by decide +kernel
theorem dX1_addNumber_56 : decode cX1_addNumber 56 = .ok (.aload_n 0, 1) := by decide +kernel
theorem dX1_addNumber_57 : decode cX1_addNumber 57 = .ok (.dup, 1) := by decide +kernel
theorem dX1_addNumber_58 : decode cX1_addNumber 58 = .ok (.getfield 13, 3) := by decide +kernel
theorem dX1_addNumber_61 : decode cX1_addNumber 61 = .ok (.iload_n 3, 1) := by decide +kernel
theorem dX1_addNumber_62 : decode cX1_addNumber 62 = .ok (.iadd, 1) := by decide +kernel
theorem dX1_addNumber_63 : decode cX1_addNumber 63 = .ok (.putfield 13, 3) := by decide +kernel
theorem dX1_addNumber_66 : decode cX1_addNumber 66 = .ok (.return_, 1) := by decide +kernel
abbrev mX1_addHighFirst : ks_M := (RX1, cX1_addHighFirst, 2, none, "addHighFirst")
theorem dX1_addHighFirst_0 : decode cX1_addHighFirst 0 = .ok (.aload_n 0, 1) := by decide +kernel
theorem dX1_addHighFirst_1 : decode cX1_addHighFirst 1 = .ok (.iload_n 1, 1) := by decide +kernel
theorem dX1_addHighFirst_2 : decode cX1_addHighFirst 2 = .ok (.bipush 24, 2) := by decide +kernel
theorem dX1_addHighFirst_4 : decode cX1_addHighFirst 4 = .ok (.iushr, 1) := by decide +kernel
theorem dX1_addHighFirst_5 : decode cX1_addHighFirst 5 = .ok (.sipush 255, 3) := by decide +kernel
theorem dX1_addHighFirst_8 : decode cX1_addHighFirst 8 = .ok (.iand, 1) := by decide +kernel
theorem dX1_addHighFirst_9 : decode cX1_addHighFirst 9 = .ok (.iload_n 1, 1) := by decide +kernel
theorem dX1_addHighFirst_10 : decode cX1_addHighFirst 10 = .ok (.bipush 8, 2) := by decide +kernel
theorem dX1_addHighFirst_12 : decode cX1_addHighFirst 12 = .ok (.iushr, 1) := by decide +kernel
theorem dX1_addHighFirst_13 : decode cX1_addHighFirst 13 = .ok (.ldc 21, 2) := by decide +kernel
theorem dX1_addHighFirst_15 : decode cX1_addHighFirst 15 = .ok (.iand, 1) := by decide +kernel
theorem dX1_addHighFirst_16 : decode cX1_addHighFirst 16 = .ok (.ior, 1) := by decide +kernel
theorem dX1_addHighFirst_17 : decode cX1_addHighFirst 17 = .ok (.iload_n 1, 1) := by decide +kernel
theorem dX1_addHighFirst_18 : decode cX1_addHighFirst 18 = .ok (.bipush 8, 2) := by decide +kernel
theorem dX1_addHighFirst_20 : decode cX1_addHighFirst 20 = .ok (.ishl, 1) := by decide +kernel
theorem dX1_addHighFirst_21 : decode cX1_addHighFirst 21 = .ok (.ldc 22, 2) := by decide +kernel
theorem dX1_addHighFirst_23 : decode cX1_addHighFirst 23 = .ok (.iand, 1) := by decide +kernel
theorem dX1_addHighFirst_24 : decode cX1_addHighFirst 24 = .ok (.ior, 1) := by decide +kernel
theorem dX1_addHighFirst_25 : decode cX1_addHighFirst 25 = .ok (.iload_n 1, 1) := by decide +kernel
theorem dX1_addHighFirst_26 : decode cX1_addHighFirst 26 = .ok (.bipush 24, 2) := by decide +kernel
theorem dX1_addHighFirst_28 : decode cX1_addHighFirst 28 = .ok (.ishl, 1) := by decide +kernel
theorem dX1_addHighFirst_29 : decode cX1_addHighFirst 29 = .ok (.ior, 1) := by decide +kernel
theorem dX1_addHighFirst_30 : decode cX1_addHighFirst 30 = .ok (.i2l, 1) := by decide +kernel
theorem dX1_addHighFirst_31 : decode cX1_addHighFirst 31 = .ok (.iconst 4, 1) := by decide +kernel
theorem dX1_addHighFirst_32 : decode cX1_addHighFirst 32 = .ok (.invokevirtual 23, 3) := by decide +kernel
theorem dX1_addHighFirst_35 : decode cX1_addHighFirst 35 = .ok (.return_, 1) := by decide +kernel
abbrev mX1_addCount : ks_M := (RX1, cX1_addCount, 3, none, "addCount")
theorem dX1_addCount_0 : decode cX1_addCount 0 = .ok (.iload_n 1, 1) := by decide +kernel
theorem dX1_addCount_1 : decode cX1_addCount 1 = .ok (.sipush 253, 3) := by decide +kernel
theorem dX1_addCount_4 : decode cX1_addCount 4 = .ok (.if_icmp .ge 7, 3) := by decide +kernel
theorem dX1_addCount_7 : decode cX1_addCount 7 = .ok (.iconst 1, 1) := by decide +kernel
theorem dX1_addCount_8 : decode cX1_addCount 8 = .ok (.goto 4, 3) := by decide +kernel
theorem dX1_addCount_11 : decode cX1_addCount 11 = .ok (.iconst 3, 1) := by decide +kernel
theorem dX1_addCount_12 : decode cX1_addCount 12 = .ok (.istore_n 2, 1) := by decide +kernel
theorem dX1_addCount_13 : decode cX1_addCount 13 = .ok (.iload_n 2, 1) := by decide +kernel
theorem dX1_addCount_14 : decode cX1_addCount 14 = .ok (.aload_n 0, 1) := by decide +kernel
theorem dX1_addCount_15 : decode cX1_addCount 15 = .ok (.getfield 7, 3) := by decide +kernel
theorem dX1_addCount_18 : decode cX1_addCount 18 = .ok (.arraylength, 1) := by decide +kernel
theorem dX1_addCount_19 : decode cX1_addCount 19 = .ok (.aload_n 0, 1) := by decide +kernel
theorem dX1_addCount_20 : decode cX1_addCount 20 = .ok (.getfield 13, 3) := by decide +kernel
theorem dX1_addCount_23 : decode cX1_addCount 23 = .ok (.isub, 1) := by decide +kernel
theorem dX1_addCount_24 : decode cX1_addCount 24 = .ok (.if_icmp .le 9, 3) := by decide +kernel
theorem dX1_addCount_27 : decode cX1_addCount 27 = .ok (.aload_n 0, 1) := by decide +kernel
theorem dX1_addCount_28 : decode cX1_addCount 28 = .ok (.iconst 1, 1) := by decide +kernel
theorem dX1_addCount_29 : decode cX1_addCount 29 = .ok (.putfield 17, 3) := by decide +kernel
theorem dX1_addCount_32 : decode cX1_addCount 32 = .ok (.return_, 1) := by decide +kernel
theorem dX1_addCount_33 : decode cX1_addCount 33 = .ok (.iload_n 2, 1) := by decide +kernel
theorem dX1_addCount_34 : decode cX1_addCount 34 = .ok (.iconst 1, 1) := by decide +kernel
theorem dX1_addCount_35 : decode cX1_addCount 35 = .ok (.if_icmp .ne 17, 3) := by decide +kernel
theorem dX1_addCount_38 : decode cX1_addCount 38 = .ok (.aload_n 0, 1) := by decide +kernel
theorem dX1_addCount_39 : decode cX1_addCount 39 = .ok (.getfield 7, 3) := by decide +kernel
theorem dX1_addCount_42 : decode cX1_addCount 42 = .ok (.aload_n 0, 1) := by decide +kernel
theorem dX1_addCount_43 : decode cX1_addCount 43 = .ok (.getfield 13, 3) := by decide +kernel
theorem dX1_addCount_46 : decode cX1_addCount 46 = .ok (.iload_n 1, 1) := by decide +kernel
theorem dX1_addCount_47 : decode cX1_addCount 47 = .ok (.i2b, 1) := by decide +kernel
theorem dX1_addCount_48 : decode cX1_addCount 48 = .ok (.bastore, 1) := by decide +kernel
theorem dX1_addCount_49 : decode cX1_addCount 49 = .ok (.goto 43, 3) := by decide +kernel
theorem dX1_addCount_52 : decode cX1_addCount 52 = .ok (.aload_n 0, 1) := by decide +kernel
theorem dX1_addCount_53 : decode cX1_addCount 53 = .ok (.getfield 7, 3) := by decide +kernel
theorem dX1_addCount_56 : decode cX1_addCount 56 = .ok (.aload_n 0, 1) := by decide +kernel
theorem dX1_addCount_57 : decode cX1_addCount 57 = .ok (.getfield 13, 3) := by decide +kernel
theorem dX1_addCount_60 : decode cX1_addCount 60 = .ok (.bipush (-3), 2) := by decide +kernel
theorem dX1_addCount_62 : decode cX1_addCount 62 = .ok (.bastore, 1) := by decide +kernel
theorem dX1_addCount_63 : decode cX1_addCount 63 = .ok (.aload_n 0, 1) := by decide +kernel
theorem dX1_addCount_64 : decode cX1_addCount 64 = .ok (.getfield 7, 3) := by decide +kernel
theorem dX1_addCount_67 : decode cX1_addCount 67 = .ok (.aload_n 0, 1) := by decide +kernel
theorem dX1_addCount_68 : decode cX1_addCount 68 = .ok (.getfield 13, 3) := by decide +kernel
theorem dX1_addCount_71 : decode cX1_addCount 71 = .ok (.iconst 1, 1) := by decide +kernel
theorem dX1_addCount_72 : decode cX1_addCount 72 = .ok (.iadd, 1) := by decide +kernel
theorem dX1_addCount_73 : decode cX1_addCount 73 = .ok (.iload_n 1, 1) := by decide +kernel
theorem dX1_addCount_74 : decode cX1_addCount 74 = .ok (.i2b, 1) := by decide +kernel
theorem dX1_addCount_75 : decode cX1_addCount 75 = .ok (.bastore, 1) := by decide +kernel
theorem dX1_addCount_76 : decode cX1_addCount 76 = .ok (.aload_n 0, 1) := by decide +kernel
theorem dX1_addCount_77 : decode cX1_addCount 77 = .ok (.getfield 7, 3) := by decide +kernel
theorem dX1_addCount_80 : decode cX1_addCount 80 = .ok (.aload_n 0, 1) := by decide +kernel
theorem dX1_addCount_81 : decode cX1_addCount 81 = .ok (.getfield 13, 3) := by decide +kernel
theorem dX1_addCount_84 : decode cX1_addCount 84 = .ok (.iconst 2, 1) := by decide +kernel
theorem dX1_addCount_85 : decode cX1_addCount 85 = .ok (.iadd, 1) := by decide +kernel
theorem dX1_addCount_86 : decode cX1_addCount 86 = .ok (.iload_n 1, 1) := by decide +kernel
theorem dX1_addCount_87 : decode cX1_addCount 87 = .ok (.bipush 8, 2) := by decide +kernel
theorem dX1_addCount_89 : decode cX1_addCount 89 = .ok (.iushr, 1) := by decide +kernel
theorem dX1_addCount_90 : decode cX1_addCount 90 = .ok (.i2b, 1) := by decide +kernel
theorem dX1_addCount_91 : decode cX1_addCount 91 = .ok (.bastore, 1) := by decide +kernel
theorem dX1_addCount_92 : decode cX1_addCount 92 = .ok (.aload_n 0, 1) := by decide +kernel
theorem dX1_addCount_93 : decode cX1_addCount 93 = .ok (.dup, 1) := by decide +kernel
theorem dX1_addCount_94 : decode cX1_addCount 94 = .ok (.getfield 13, 3) := by decide +kernel
theorem dX1_addCount_97 : decode cX1_addCount 97 = .ok (.iload_n 2, 1) := by decide +kernel
theorem dX1_addCount_98 : decode cX1_addCount 98 = .ok (.iadd, 1) := by decide +kernel
theorem dX1_addCount_99 : decode cX1_addCount 99 = .ok (.putfield 13, 3) := by decide +kernel
theorem dX1_addCount_102 : decode cX1_addCount 102 = .ok (.return_, 1) := by decide +kernel
abbrev mX1_addBytes : ks_M := (RX1, cX1_addBytes, 4, none, "addBytes")
theorem dX1_addBytes_0 : decode cX1_addBytes 0 = .ok (.iload_n 3, 1) := by decide +kernel
theorem dX1_addBytes_1 : decode cX1_addBytes 1 = .ok (.aload_n 0, 1) := by decide +kernel
theorem dX1_addBytes_2 : decode cX1_addBytes 2 = .ok (.getfield 7, 3) := by decide +kernel
theorem dX1_addBytes_5 : decode cX1_addBytes 5 = .ok (.arraylength, 1) := by decide +kernel
theorem dX1_addBytes_6 : decode cX1_addBytes 6 = .ok (.aload_n 0, 1) := by decide +kernel
theorem dX1_addBytes_7 : decode cX1_addBytes 7 = .ok (.getfield 13, 3) := by decide +kernel
theorem dX1_addBytes_10 : decode cX1_addBytes 10 = .ok (.isub, 1) := by decide +kernel
theorem dX1_addBytes_11 : decode cX1_addBytes 11 = .ok (.if_icmp .le 9, 3) := by decide +kernel
theorem dX1_addBytes_14 : decode cX1_addBytes 14 = .ok (.aload_n 0, 1) := by decide +kernel
theorem dX1_addBytes_15 : decode cX1_addBytes 15 = .ok (.iconst 1, 1) := by decide +kernel
theorem dX1_addBytes_16 : decode cX1_addBytes 16 = .ok (.putfield 17, 3) := by decide +kernel
theorem dX1_addBytes_19 : decode cX1_addBytes 19 = .ok (.return_, 1) := by decide +kernel
theorem dX1_addBytes_20 : decode cX1_addBytes 20 = .ok (.aload_n 1, 1) := by decide +kernel
theorem dX1_addBytes_21 : decode cX1_addBytes 21 = .ok (.iload_n 2, 1) := by decide +kernel
theorem dX1_addBytes_22 : decode cX1_addBytes 22 = .ok (.aload_n 0, 1) := by decide +kernel
theorem dX1_addBytes_23 : decode cX1_addBytes 23 = .ok (.getfield 7, 3) := by decide +kernel
theorem dX1_addBytes_26 : decode cX1_addBytes 26 = .ok (.aload_n 0, 1) := by decide +kernel
theorem dX1_addBytes_27 : decode cX1_addBytes 27 = .ok (.getfield 13, 3) := by decide +kernel
theorem dX1_addBytes_30 : decode cX1_addBytes 30 = .ok (.iload_n 3, 1) := by decide +kernel
theorem dX1_addBytes_31 : decode cX1_addBytes 31 = .ok (.invokestatic 27, 3) := by decide +kernel
theorem dX1_addBytes_34 : decode cX1_addBytes 34 = .ok (.aload_n 0, 1) := by decide +kernel
theorem dX1_addBytes_35 : decode cX1_addBytes 35 = .ok (.dup, 1) := by decide +kernel
theorem dX1_addBytes_36 : decode cX1_addBytes 36 = .ok (.getfield 13, 3) := by decide +kernel
theorem dX1_addBytes_39 : decode cX1_addBytes 39 = .ok (.iload_n 3, 1) := by decide +kernel
theorem dX1_addBytes_40 : decode cX1_addBytes 40 = .ok (.iadd, 1) := by decide +kernel
theorem dX1_addBytes_41 : decode cX1_addBytes 41 = .ok (.putfield 13, 3) := by decide +kernel
theorem dX1_addBytes_44 : decode cX1_addBytes 44 = .ok (.return_, 1) := by decide +kernel
theorem kx_2 : (Jvm.Cond.initialized "CoinJudge$Buffer") ∈ lw_tbl := List.mem_append_right _ (List.mem_of_getElem? (i := 2) (by decide +kernel))
theorem kx_17 : (Jvm.Cond.initialized "java/lang/System") ∈ lw_tbl := List.mem_append_right _ (List.mem_of_getElem? (i := 17) (by decide +kernel))
theorem kx_43 : (Jvm.Cond.instanceMethod ({ cls := "java/lang/Object", name := "<init>", desc := "()V" } : Jvm.MethodName)) ∈ lw_tbl := List.mem_append_right _ (List.mem_of_getElem? (i := 43) (by decide +kernel))
theorem kx_44 : (Jvm.Cond.code ({ cls := "java/lang/Object", name := "<init>", desc := "()V" } : Jvm.MethodName) object_method_1_code (1 : Nat) (Option.none : Option Jvm.ClassFile.FieldType)) ∈ lw_tbl := List.mem_append_right _ (List.mem_of_getElem? (i := 44) (by decide +kernel))
theorem kx_49 : (Jvm.Cond.code ({ cls := "CoinJudge$Buffer", name := "<init>", desc := "(I)V" } : Jvm.MethodName) prog_3_method_1_code (2 : Nat) (Option.none : Option Jvm.ClassFile.FieldType)) ∈ lw_tbl := List.mem_append_right _ (List.mem_of_getElem? (i := 49) (by decide +kernel))
theorem kx_50 : (Jvm.Cond.methodLink "CoinJudge$Buffer" (1 : Nat) ({ cls := "java/lang/Object", name := "<init>", desc := "()V" } : Jvm.MethodName)) ∈ lw_tbl := List.mem_append_right _ (List.mem_of_getElem? (i := 50) (by decide +kernel))
theorem kx_51 : (Jvm.Cond.fieldLink "CoinJudge$Buffer" (7 : Nat) "CoinJudge$Buffer" "bytes" "[B") ∈ lw_tbl := List.mem_append_right _ (List.mem_of_getElem? (i := 51) (by decide +kernel))
theorem kx_60 : (Jvm.Cond.fieldLink "CoinJudge$Buffer" (13 : Nat) "CoinJudge$Buffer" "length" "I") ∈ lw_tbl := List.mem_append_right _ (List.mem_of_getElem? (i := 60) (by decide +kernel))
theorem kx_65 : (Jvm.Cond.fieldLink "CoinJudge$Buffer" (17 : Nat) "CoinJudge$Buffer" "over" "Z") ∈ lw_tbl := List.mem_append_right _ (List.mem_of_getElem? (i := 65) (by decide +kernel))
theorem kx_74 : (Jvm.Cond.arrayClass Jvm.ClassFile.FieldType.byte) ∈ lw_tbl := List.mem_append_right _ (List.mem_of_getElem? (i := 74) (by decide +kernel))
theorem kx_274 : (Jvm.Cond.static ({ cls := "java/lang/System", name := "arraycopy", desc := "(Ljava/lang/Object;ILjava/lang/Object;II)V" } : Jvm.MethodName)) ∈ lw_tbl := List.mem_append_right _ (List.mem_of_getElem? (i := 274) (by decide +kernel))
theorem kx_829 : (Jvm.Cond.instanceMethod ({ cls := "CoinJudge$Buffer", name := "addNumber", desc := "(JI)V" } : Jvm.MethodName)) ∈ lw_tbl := List.mem_append_right _ (List.mem_of_getElem? (i := 829) (by decide +kernel))
theorem kx_830 : (Jvm.Cond.selects "CoinJudge$Buffer" ({ cls := "CoinJudge$Buffer", name := "addNumber", desc := "(JI)V" } : Jvm.MethodName) ({ cls := "CoinJudge$Buffer", name := "addNumber", desc := "(JI)V" } : Jvm.MethodName)) ∈ lw_tbl := List.mem_append_right _ (List.mem_of_getElem? (i := 830) (by decide +kernel))
theorem kx_831 : (Jvm.Cond.code ({ cls := "CoinJudge$Buffer", name := "addNumber", desc := "(JI)V" } : Jvm.MethodName) prog_3_method_4_code (5 : Nat) (Option.none : Option Jvm.ClassFile.FieldType)) ∈ lw_tbl := List.mem_append_right _ (List.mem_of_getElem? (i := 831) (by decide +kernel))
theorem kx_845 : (Jvm.Cond.code ({ cls := "CoinJudge$Buffer", name := "clear", desc := "()V" } : Jvm.MethodName) prog_3_method_3_code (1 : Nat) (Option.none : Option Jvm.ClassFile.FieldType)) ∈ lw_tbl := List.mem_append_right _ (List.mem_of_getElem? (i := 845) (by decide +kernel))
theorem kx_870 : (Jvm.Cond.code ({ cls := "CoinJudge$Buffer", name := "addCount", desc := "(I)V" } : Jvm.MethodName) prog_3_method_6_code (3 : Nat) (Option.none : Option Jvm.ClassFile.FieldType)) ∈ lw_tbl := List.mem_append_right _ (List.mem_of_getElem? (i := 870) (by decide +kernel))
theorem kx_874 : (Jvm.Cond.code ({ cls := "CoinJudge$Buffer", name := "addBytes", desc := "([BII)V" } : Jvm.MethodName) prog_3_method_7_code (4 : Nat) (Option.none : Option Jvm.ClassFile.FieldType)) ∈ lw_tbl := List.mem_append_right _ (List.mem_of_getElem? (i := 874) (by decide +kernel))
theorem kx_875 : (Jvm.Cond.methodLink "CoinJudge$Buffer" (27 : Nat) ({ cls := "java/lang/System", name := "arraycopy", desc := "(Ljava/lang/Object;ILjava/lang/Object;II)V" } : Jvm.MethodName)) ∈ lw_tbl := List.mem_append_right _ (List.mem_of_getElem? (i := 875) (by decide +kernel))
theorem kx_999 : (Jvm.Cond.code ({ cls := "CoinJudge$Buffer", name := "number", desc := "([BII)J" } : Jvm.MethodName) prog_3_method_2_code (6 : Nat) (Option.some Jvm.ClassFile.FieldType.long)) ∈ lw_tbl := List.mem_append_right _ (List.mem_of_getElem? (i := 999) (by decide +kernel))
theorem kx_1147 : (Jvm.Cond.code ({ cls := "CoinJudge$Buffer", name := "addHighFirst", desc := "(I)V" } : Jvm.MethodName) prog_3_method_5_code (2 : Nat) (Option.none : Option Jvm.ClassFile.FieldType)) ∈ lw_tbl := List.mem_append_right _ (List.mem_of_getElem? (i := 1147) (by decide +kernel))
theorem kx_1148 : (Jvm.Cond.constant "CoinJudge$Buffer" (21 : Nat) (65280 : Int32)) ∈ lw_tbl := List.mem_append_right _ (List.mem_of_getElem? (i := 1148) (by decide +kernel))
theorem kx_1149 : (Jvm.Cond.constant "CoinJudge$Buffer" (22 : Nat) (16711680 : Int32)) ∈ lw_tbl := List.mem_append_right _ (List.mem_of_getElem? (i := 1149) (by decide +kernel))
theorem kx_1150 : (Jvm.Cond.methodLink "CoinJudge$Buffer" (23 : Nat) ({ cls := "CoinJudge$Buffer", name := "addNumber", desc := "(JI)V" } : Jvm.MethodName)) ∈ lw_tbl := List.mem_append_right _ (List.mem_of_getElem? (i := 1150) (by decide +kernel))

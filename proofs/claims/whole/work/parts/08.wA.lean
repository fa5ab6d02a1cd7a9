theorem cl_X1 : vwCl[4]? = some (RX1, TX1, 3) := rfl
theorem in_X1 : ∀ w ∈ u_ws RX1 TX1 3, w ∈ lw_tbl ∧ goodWord w = true := by decide +kernel
abbrev mX1_init : ks_M := (RX1, cX1_init, 2, none, "<init>")
theorem dX1_init_0 : decode cX1_init 0 = .ok (.aload_n 0, 1) := by decide +kernel
theorem dX1_init_1 : decode cX1_init 1 = .ok (.invokespecial 1, 3) := by decide +kernel
theorem dX1_init_4 : decode cX1_init 4 = .ok (.aload_n 0, 1) := by decide +kernel
theorem dX1_init_5 : decode cX1_init 5 = .ok (.iload_n 1, 1) := by decide +kernel
theorem dX1_init_6 : decode cX1_init 6 = .ok (.newarray .byte, 2) := by decide +kernel
theorem dX1_init_8 : decode cX1_init 8 = .ok (.putfield 7, 3) := by decide +kernel
theorem dX1_init_11 : decode cX1_init 11 = .ok (.return_, 1) := by decide +kernel
abbrev mX1_number : ks_M := (RX1, cX1_number, 6, (some .long), "number")
theorem dX1_number_0 : decode cX1_number 0 = .ok (.lconst 0, 1) := by decide +kernel
theorem dX1_number_1 : decode cX1_number 1 = .ok (.lstore_n 3, 1) := by decide +kernel
theorem dX1_number_2 : decode cX1_number 2 = .ok (.iload_n 2, 1) := by decide +kernel
theorem dX1_number_3 : decode cX1_number 3 = .ok (.iconst 1, 1) := by decide +kernel
theorem dX1_number_4 : decode cX1_number 4 = .ok (.isub, 1) := by decide +kernel
theorem dX1_number_5 : decode cX1_number 5 = .ok (.istore 5, 2) := by decide +kernel
theorem dX1_number_7 : decode cX1_number 7 = .ok (.iload 5, 2) := by decide +kernel
theorem dX1_number_9 : decode cX1_number 9 = .ok (.ifCond .lt 26, 3) := by decide +kernel
theorem dX1_number_12 : decode cX1_number 12 = .ok (.lload_n 3, 1) := by decide +kernel
theorem dX1_number_13 : decode cX1_number 13 = .ok (.bipush 8, 2) := by decide +kernel
theorem dX1_number_15 : decode cX1_number 15 = .ok (.lshl, 1) := by decide +kernel
theorem dX1_number_16 : decode cX1_number 16 = .ok (.aload_n 0, 1) := by decide +kernel
theorem dX1_number_17 : decode cX1_number 17 = .ok (.iload_n 1, 1) := by decide +kernel
theorem dX1_number_18 : decode cX1_number 18 = .ok (.iload 5, 2) := by decide +kernel
theorem dX1_number_20 : decode cX1_number 20 = .ok (.iadd, 1) := by decide +kernel
theorem dX1_number_21 : decode cX1_number 21 = .ok (.baload, 1) := by decide +kernel
theorem dX1_number_22 : decode cX1_number 22 = .ok (.sipush 255, 3) := by decide +kernel
theorem dX1_number_25 : decode cX1_number 25 = .ok (.iand, 1) := by decide +kernel
theorem dX1_number_26 : decode cX1_number 26 = .ok (.i2l, 1) := by decide +kernel
theorem dX1_number_27 : decode cX1_number 27 = .ok (.lor, 1) := by decide +kernel
theorem dX1_number_28 : decode cX1_number 28 = .ok (.lstore_n 3, 1) := by decide +kernel
theorem dX1_number_29 : decode cX1_number 29 = .ok (.iinc 5 (-1), 3) := by decide +kernel
theorem dX1_number_32 : decode cX1_number 32 = .ok (.goto (-25), 3) := by decide +kernel
theorem dX1_number_35 : decode cX1_number 35 = .ok (.lload_n 3, 1) := by decide +kernel
theorem dX1_number_36 : decode cX1_number 36 = .ok (.lreturn, 1) := by decide +kernel
abbrev mX1_clear : ks_M := (RX1, cX1_clear, 1, none, "clear")
theorem dX1_clear_0 : decode cX1_clear 0 = .ok (.aload_n 0, 1) := by decide +kernel
theorem dX1_clear_1 : decode cX1_clear 1 = .ok (.iconst 0, 1) := by decide +kernel
theorem dX1_clear_2 : decode cX1_clear 2 = .ok (.putfield 13, 3) := by decide +kernel
theorem dX1_clear_5 : decode cX1_clear 5 = .ok (.aload_n 0, 1) := by decide +kernel
theorem dX1_clear_6 : decode cX1_clear 6 = .ok (.iconst 0, 1) := by decide +kernel
theorem dX1_clear_7 : decode cX1_clear 7 = .ok (.putfield 17, 3) := by decide +kernel
theorem dX1_clear_10 : decode cX1_clear 10 = .ok (.return_, 1) := by decide +kernel
abbrev mX1_addNumber : ks_M := (RX1, cX1_addNumber, 5, none, "addNumber")
theorem dX1_addNumber_0 : decode cX1_addNumber 0 = .ok (.iload_n 3, 1) := by decide +kernel
theorem dX1_addNumber_1 : decode cX1_addNumber 1 = .ok (.aload_n 0, 1) := by decide +kernel
theorem dX1_addNumber_2 : decode cX1_addNumber 2 = .ok (.getfield 7, 3) := by decide +kernel
theorem dX1_addNumber_5 : decode cX1_addNumber 5 = .ok (.arraylength, 1) := by decide +kernel
theorem dX1_addNumber_6 : decode cX1_addNumber 6 = .ok (.aload_n 0, 1) := by decide +kernel
theorem dX1_addNumber_7 : decode cX1_addNumber 7 = .ok (.getfield 13, 3) := by decide +kernel
theorem dX1_addNumber_10 : decode cX1_addNumber 10 = .ok (.isub, 1) := by decide +kernel
theorem dX1_addNumber_11 : decode cX1_addNumber 11 = .ok (.if_icmp .le 9, 3) := by decide +kernel
theorem dX1_addNumber_14 : decode cX1_addNumber 14 = .ok (.aload_n 0, 1) := by decide +kernel
theorem dX1_addNumber_15 : decode cX1_addNumber 15 = .ok (.iconst 1, 1) := by decide +kernel
theorem dX1_addNumber_16 : decode cX1_addNumber 16 = .ok (.putfield 17, 3) := by decide +kernel
theorem dX1_addNumber_19 : decode cX1_addNumber 19 = .ok (.return_, 1) := by decide +kernel
theorem dX1_addNumber_20 : decode cX1_addNumber 20 = .ok (.iconst 0, 1) := by decide +kernel
theorem dX1_addNumber_21 : decode cX1_addNumber 21 = .ok (.istore 4, 2) := by decide +kernel
theorem dX1_addNumber_23 : decode cX1_addNumber 23 = .ok (.iload 4, 2) := by decide +kernel
theorem dX1_addNumber_25 : decode cX1_addNumber 25 = .ok (.iload_n 3, 1) := by decide +kernel
theorem dX1_addNumber_26 : decode cX1_addNumber 26 = .ok (.if_icmp .ge 30, 3) := by decide +kernel
theorem dX1_addNumber_29 : decode cX1_addNumber 29 = .ok (.aload_n 0, 1) := by decide +kernel
theorem dX1_addNumber_30 : decode cX1_addNumber 30 = .ok (.getfield 7, 3) := by decide +kernel
theorem dX1_addNumber_33 : decode cX1_addNumber 33 = .ok (.aload_n 0, 1) := by decide +kernel
theorem dX1_addNumber_34 : decode cX1_addNumber 34 = .ok (.getfield 13, 3) := by decide +kernel
theorem dX1_addNumber_37 : decode cX1_addNumber 37 = .ok (.iload 4, 2) := by decide +kernel
theorem dX1_addNumber_39 : decode cX1_addNumber 39 = .ok (.iadd, 1) := by decide +kernel
theorem dX1_addNumber_40 : decode cX1_addNumber 40 = .ok (.lload_n 1, 1) := by decide +kernel
theorem dX1_addNumber_41 : decode cX1_addNumber 41 = .ok (.bipush 8, 2) := by decide +kernel
theorem dX1_addNumber_43 : decode cX1_addNumber 43 = .ok (.iload 4, 2) := by decide +kernel
theorem dX1_addNumber_45 : decode cX1_addNumber 45 = .ok (.imul, 1) := by decide +kernel
theorem dX1_addNumber_46 : decode cX1_addNumber 46 = .ok (.lushr, 1) := by decide +kernel
theorem dX1_addNumber_47 : decode cX1_addNumber 47 = .ok (.l2i, 1) := by decide +kernel
theorem dX1_addNumber_48 : decode cX1_addNumber 48 = .ok (.i2b, 1) := by decide +kernel
theorem dX1_addNumber_49 : decode cX1_addNumber 49 = .ok (.bastore, 1) := by decide +kernel
theorem dX1_addNumber_50 : decode cX1_addNumber 50 = .ok (.iinc 4 1, 3) := by decide +kernel
theorem dX1_addNumber_53 : decode cX1_addNumber 53 = .ok (.goto (-30), 3) := by decide +kernel
theorem dX1_addNumber_56 : decode cX1_addNumber 56 = .ok (.aload_n 0, 1) := by decide +kernel
theorem dX1_addNumber_57 : decode cX1_addNumber 57 = .ok (.dup, 1) := by decide +kernel
theorem dX1_addNumber_58 : decode cX1_addNumber 58 = .ok (.getfield 13, 3) := by decide +kernel
theorem dX1_addNumber_61 : decode cX1_addNumber 61 = .ok (.iload_n 3, 1) := by decide +kernel
theorem dX1_addNumber_62 : decode cX1_addNumber 62 = .ok (.iadd, 1) := by decide +kernel
theorem dX1_addNumber_63 : decode cX1_addNumber 63 = .ok (.putfield 13, 3) := by decide +kernel
theorem dX1_addNumber_66 : decode cX1_addNumber 66 = .ok (.return_, 1) := by decide +kernel
abbrev mX1_addHighFirst : ks_M := (RX1, cX1_addHighFirst, 2, none, "addHighFirst")
theorem dX1_addHighFirst_0 : decode cX1_addHighFirst 0 = .ok (.aload_n 0, 1) := by decide +kernel
theorem dX1_addHighFirst_1 : decode cX1_addHighFirst 1 = .ok (.iload_n 1, 1) := by decide +kernel
theorem dX1_addHighFirst_2 : decode cX1_addHighFirst 2 = .ok (.bipush 24, 2) := by decide +kernel
theorem dX1_addHighFirst_4 : decode cX1_addHighFirst 4 = .ok (.iushr, 1) := by decide +kernel
theorem dX1_addHighFirst_5 : decode cX1_addHighFirst 5 = .ok (.sipush 255, 3) := by decide +kernel
theorem dX1_addHighFirst_8 : decode cX1_addHighFirst 8 = .ok (.iand, 1) := by decide +kernel
theorem dX1_addHighFirst_9 : decode cX1_addHighFirst 9 = .ok (.iload_n 1, 1) := by decide +kernel
theorem dX1_addHighFirst_10 : decode cX1_addHighFirst 10 = .ok (.bipush 8, 2) := by decide +kernel
theorem dX1_addHighFirst_12 : decode cX1_addHighFirst 12 = .ok (.iushr, 1) := by decide +kernel
theorem dX1_addHighFirst_13 : decode cX1_addHighFirst 13 = .ok (.ldc 21, 2) := by decide +kernel
theorem dX1_addHighFirst_15 : decode cX1_addHighFirst 15 = .ok (.iand, 1) := by decide +kernel
theorem dX1_addHighFirst_16 : decode cX1_addHighFirst 16 = .ok (.ior, 1) := by decide +kernel
theorem dX1_addHighFirst_17 : decode cX1_addHighFirst 17 = .ok (.iload_n 1, 1) := by decide +kernel
theorem dX1_addHighFirst_18 : decode cX1_addHighFirst 18 = .ok (.bipush 8, 2) := by decide +kernel
theorem dX1_addHighFirst_20 : decode cX1_addHighFirst 20 = .ok (.ishl, 1) := by decide +kernel
theorem dX1_addHighFirst_21 : decode cX1_addHighFirst 21 = .ok (.ldc 22, 2) := by decide +kernel
theorem dX1_addHighFirst_23 : decode cX1_addHighFirst 23 = .ok (.iand, 1) := by decide +kernel
theorem dX1_addHighFirst_24 : decode cX1_addHighFirst 24 = .ok (.ior, 1) := by decide +kernel
theorem dX1_addHighFirst_25 : decode cX1_addHighFirst 25 = .ok (.iload_n 1, 1) := by decide +kernel
theorem dX1_addHighFirst_26 : decode cX1_addHighFirst 26 = .ok (.bipush 24, 2) := by decide +kernel
theorem dX1_addHighFirst_28 : decode cX1_addHighFirst 28 = .ok (.ishl, 1) := by decide +kernel
theorem dX1_addHighFirst_29 : decode cX1_addHighFirst 29 = .ok (.ior, 1) := by decide +kernel
theorem dX1_addHighFirst_30 : decode cX1_addHighFirst 30 = .ok (.i2l, 1) := by decide +kernel
theorem dX1_addHighFirst_31 : decode cX1_addHighFirst 31 = .ok (.iconst 4, 1) := by decide +kernel
theorem dX1_addHighFirst_32 : decode cX1_addHighFirst 32 = .ok (.invokevirtual 23, 3) := by decide +kernel
theorem dX1_addHighFirst_35 : decode cX1_addHighFirst 35 = .ok (.return_, 1) := by decide +kernel
abbrev mX1_addCount : ks_M := (RX1, cX1_addCount, 3, none, "addCount")
theorem dX1_addCount_0 : decode cX1_addCount 0 = .ok (.iload_n 1, 1) := by decide +kernel
theorem dX1_addCount_1 : decode cX1_addCount 1 = .ok (.sipush 253, 3) := by decide +kernel
theorem dX1_addCount_4 : decode cX1_addCount 4 = .ok (.if_icmp .ge 7, 3) := by decide +kernel
theorem dX1_addCount_7 : decode cX1_addCount 7 = .ok (.iconst 1, 1) := by decide +kernel
theorem dX1_addCount_8 : decode cX1_addCount 8 = .ok (.goto 4, 3) := by decide +kernel
theorem dX1_addCount_11 : decode cX1_addCount 11 = .ok (.iconst 3, 1) := by decide +kernel
theorem dX1_addCount_12 : decode cX1_addCount 12 = .ok (.istore_n 2, 1) := by decide +kernel
theorem dX1_addCount_13 : decode cX1_addCount 13 = .ok (.iload_n 2, 1) := by decide +kernel
theorem dX1_addCount_14 : decode cX1_addCount 14 = .ok (.aload_n 0, 1) := by decide +kernel
theorem dX1_addCount_15 : decode cX1_addCount 15 = .ok (.getfield 7, 3) := by decide +kernel
theorem dX1_addCount_18 : decode cX1_addCount 18 = .ok (.arraylength, 1) := by decide +kernel
theorem dX1_addCount_19 : decode cX1_addCount 19 = .ok (.aload_n 0, 1) := by decide +kernel
theorem dX1_addCount_20 : decode cX1_addCount 20 = .ok (.getfield 13, 3) := by decide +kernel
theorem dX1_addCount_23 : decode cX1_addCount 23 = .ok (.isub, 1) := by decide +kernel
theorem dX1_addCount_24 : decode cX1_addCount 24 = .ok (.if_icmp .le 9, 3) := by decide +kernel
theorem dX1_addCount_27 : decode cX1_addCount 27 = .ok (.aload_n 0, 1) := by decide +kernel
theorem dX1_addCount_28 : decode cX1_addCount 28 = .ok (.iconst 1, 1) := by decide +kernel
theorem dX1_addCount_29 : decode cX1_addCount 29 = .ok (.putfield 17, 3) := by decide +kernel
theorem dX1_addCount_32 : decode cX1_addCount 32 = .ok (.return_, 1) := by decide +kernel
theorem dX1_addCount_33 : decode cX1_addCount 33 = .ok (.iload_n 2, 1) := by decide +kernel
theorem dX1_addCount_34 : decode cX1_addCount 34 = .ok (.iconst 1, 1) := by decide +kernel
theorem dX1_addCount_35 : decode cX1_addCount 35 = .ok (.if_icmp .ne 17, 3) := by decide +kernel
theorem dX1_addCount_38 : decode cX1_addCount 38 = .ok (.aload_n 0, 1) := by decide +kernel
theorem dX1_addCount_39 : decode cX1_addCount 39 = .ok (.getfield 7, 3) := by decide +kernel
theorem dX1_addCount_42 : decode cX1_addCount 42 = .ok (.aload_n 0, 1) := by decide +kernel
theorem dX1_addCount_43 : decode cX1_addCount 43 = .ok (.getfield 13, 3) := by decide +kernel
theorem dX1_addCount_46 : decode cX1_addCount 46 = .ok (.iload_n 1, 1) := by decide +kernel
theorem dX1_addCount_47 : decode cX1_addCount 47 = .ok (.i2b, 1) := by decide +kernel
theorem dX1_addCount_48 : decode cX1_addCount 48 = .ok (.bastore, 1) := by decide +kernel
theorem dX1_addCount_49 : decode cX1_addCount 49 = .ok (.goto 43, 3) := by decide +kernel
theorem dX1_addCount_52 : decode cX1_addCount 52 = .ok (.aload_n 0, 1) := by decide +kernel
theorem dX1_addCount_53 : decode cX1_addCount 53 = .ok (.getfield 7, 3) := by decide +kernel
theorem dX1_addCount_56 : decode cX1_addCount 56 = .ok (.aload_n 0, 1) := by decide +kernel
theorem dX1_addCount_57 : decode cX1_addCount 57 = .ok (.getfield 13, 3) := by decide +kernel
theorem dX1_addCount_60 : decode cX1_addCount 60 = .ok (.bipush (-3), 2) := by decide +kernel
theorem dX1_addCount_62 : decode cX1_addCount 62 = .ok (.bastore, 1) := by decide +kernel
theorem dX1_addCount_63 : decode cX1_addCount 63 = .ok (.aload_n 0, 1) := by decide +kernel
theorem dX1_addCount_64 : decode cX1_addCount 64 = .ok (.getfield 7, 3) := by decide +kernel
theorem dX1_addCount_67 : decode cX1_addCount 67 = .ok (.aload_n 0, 1) := by decide +kernel
theorem dX1_addCount_68 : decode cX1_addCount 68 = .ok (.getfield 13, 3) := by decide +kernel
theorem dX1_addCount_71 : decode cX1_addCount 71 = .ok (.iconst 1, 1) := by decide +kernel
theorem dX1_addCount_72 : decode cX1_addCount 72 = .ok (.iadd, 1) := by decide +kernel
theorem dX1_addCount_73 : decode cX1_addCount 73 = .ok (.iload_n 1, 1) := by decide +kernel
theorem dX1_addCount_74 : decode cX1_addCount 74 = .ok (.i2b, 1) := by decide +kernel
theorem dX1_addCount_75 : decode cX1_addCount 75 = .ok (.bastore, 1) := by decide +kernel
theorem dX1_addCount_76 : decode cX1_addCount 76 = .ok (.aload_n 0, 1) := by decide +kernel
theorem dX1_addCount_77 : decode cX1_addCount 77 = .ok (.getfield 7, 3) := by decide +kernel
theorem dX1_addCount_80 : decode cX1_addCount 80 = .ok (.aload_n 0, 1) := by decide +kernel
theorem dX1_addCount_81 : decode cX1_addCount 81 = .ok (.getfield 13, 3) := by decide +kernel
theorem dX1_addCount_84 : decode cX1_addCount 84 = .ok (.iconst 2, 1) := by decide +kernel
theorem dX1_addCount_85 : decode cX1_addCount 85 = .ok (.iadd, 1) := by decide +kernel
theorem dX1_addCount_86 : decode cX1_addCount 86 = .ok (.iload_n 1, 1) := by decide +kernel
theorem dX1_addCount_87 : decode cX1_addCount 87 = .ok (.bipush 8, 2) := by decide +kernel
theorem dX1_addCount_89 : decode cX1_addCount 89 = .ok (.iushr, 1) := by decide +kernel
theorem dX1_addCount_90 : decode cX1_addCount 90 = .ok (.i2b, 1) := by decide +kernel
theorem dX1_addCount_91 : decode cX1_addCount 91 = .ok (.bastore, 1) := by decide +kernel
theorem dX1_addCount_92 : decode cX1_addCount 92 = .ok (.aload_n 0, 1) := by decide +kernel
theorem dX1_addCount_93 : decode cX1_addCount 93 = .ok (.dup, 1) := by decide +kernel
theorem dX1_addCount_94 : decode cX1_addCount 94 = .ok (.getfield 13, 3) := by decide +kernel
theorem dX1_addCount_97 : decode cX1_addCount 97 = .ok (.iload_n 2, 1) := by decide +kernel
theorem dX1_addCount_98 : decode cX1_addCount 98 = .ok (.iadd, 1) := by decide +kernel
theorem dX1_addCount_99 : decode cX1_addCount 99 = .ok (.putfield 13, 3) := by decide +kernel
theorem dX1_addCount_102 : decode cX1_addCount 102 = .ok (.return_, 1) := by decide +kernel
abbrev mX1_addBytes : ks_M := (RX1, cX1_addBytes, 4, none, "addBytes")
theorem dX1_addBytes_0 : decode cX1_addBytes 0 = .ok (.iload_n 3, 1) := by decide +kernel
theorem dX1_addBytes_1 : decode cX1_addBytes 1 = .ok (.aload_n 0, 1) := by decide +kernel
theorem dX1_addBytes_2 : decode cX1_addBytes 2 = .ok (.getfield 7, 3) := by decide +kernel
theorem dX1_addBytes_5 : decode cX1_addBytes 5 = .ok (.arraylength, 1) := by decide +kernel
theorem dX1_addBytes_6 : decode cX1_addBytes 6 = .ok (.aload_n 0, 1) := by decide +kernel
theorem dX1_addBytes_7 : decode cX1_addBytes 7 = .ok (.getfield 13, 3) := by decide +kernel
theorem dX1_addBytes_10 : decode cX1_addBytes 10 = .ok (.isub, 1) := by decide +kernel
theorem dX1_addBytes_11 : decode cX1_addBytes 11 = .ok (.if_icmp .le 9, 3) := by decide +kernel
theorem dX1_addBytes_14 : decode cX1_addBytes 14 = .ok (.aload_n 0, 1) := by decide +kernel
theorem dX1_addBytes_15 : decode cX1_addBytes 15 = .ok (.iconst 1, 1) := by decide +kernel
theorem dX1_addBytes_16 : decode cX1_addBytes 16 = .ok (.putfield 17, 3) := by decide +kernel
theorem dX1_addBytes_19 : decode cX1_addBytes 19 = .ok (.return_, 1) := by decide +kernel
theorem dX1_addBytes_20 : decode cX1_addBytes 20 = .ok (.aload_n 1, 1) := by decide +kernel
theorem dX1_addBytes_21 : decode cX1_addBytes 21 = .ok (.iload_n 2, 1) := by decide +kernel
theorem dX1_addBytes_22 : decode cX1_addBytes 22 = .ok (.aload_n 0, 1) := by decide +kernel
theorem dX1_addBytes_23 : decode cX1_addBytes 23 = .ok (.getfield 7, 3) := by decide +kernel
theorem dX1_addBytes_26 : decode cX1_addBytes 26 = .ok (.aload_n 0, 1) := by decide +kernel
theorem dX1_addBytes_27 : decode cX1_addBytes 27 = .ok (.getfield 13, 3) := by decide +kernel
theorem dX1_addBytes_30 : decode cX1_addBytes 30 = .ok (.iload_n 3, 1) := by decide +kernel
theorem dX1_addBytes_31 : decode cX1_addBytes 31 = .ok (.invokestatic 27, 3) := by decide +kernel
theorem dX1_addBytes_34 : decode cX1_addBytes 34 = .ok (.aload_n 0, 1) := by decide +kernel
theorem dX1_addBytes_35 : decode cX1_addBytes 35 = .ok (.dup, 1) := by decide +kernel
theorem dX1_addBytes_36 : decode cX1_addBytes 36 = .ok (.getfield 13, 3) := by decide +kernel
theorem dX1_addBytes_39 : decode cX1_addBytes 39 = .ok (.iload_n 3, 1) := by decide +kernel
theorem dX1_addBytes_40 : decode cX1_addBytes 40 = .ok (.iadd, 1) := by decide +kernel
theorem dX1_addBytes_41 : decode cX1_addBytes 41 = .ok (.putfield 13, 3) := by decide +kernel
theorem dX1_addBytes_44 : decode cX1_addBytes 44 = .ok (.return_, 1) := by decide +kernel
theorem cl_X6 : vwCl[9]? = some (RX6, TX6, 6) := rfl
theorem in_X6 : ∀ w ∈ u_ws RX6 TX6 6, w ∈ lw_tbl ∧ goodWord w = true := by decide +kernel
abbrev mX6_init : ks_M := (RX6, cX6_init, 1, none, "<init>")
theorem dX6_init_0 : decode cX6_init 0 = .ok (.aload_n 0, 1) := by decide +kernel
theorem dX6_init_1 : decode cX6_init 1 = .ok (.invokespecial 3, 3) := by decide +kernel
theorem dX6_init_4 : decode cX6_init 4 = .ok (.aload_n 0, 1) := by decide +kernel
theorem dX6_init_5 : decode cX6_init 5 = .ok (.bipush 8, 2) := by decide +kernel
theorem dX6_init_7 : decode cX6_init 7 = .ok (.newarray .int, 2) := by decide +kernel
theorem dX6_init_9 : decode cX6_init 9 = .ok (.putfield 9, 3) := by decide +kernel
theorem dX6_init_12 : decode cX6_init 12 = .ok (.aload_n 0, 1) := by decide +kernel
theorem dX6_init_13 : decode cX6_init 13 = .ok (.bipush 64, 2) := by decide +kernel
theorem dX6_init_15 : decode cX6_init 15 = .ok (.newarray .int, 2) := by decide +kernel
theorem dX6_init_17 : decode cX6_init 17 = .ok (.putfield 15, 3) := by decide +kernel
theorem dX6_init_20 : decode cX6_init 20 = .ok (.aload_n 0, 1) := by decide +kernel
theorem dX6_init_21 : decode cX6_init 21 = .ok (.bipush 10, 2) := by decide +kernel
theorem dX6_init_23 : decode cX6_init 23 = .ok (.newarray .int, 2) := by decide +kernel
theorem dX6_init_25 : decode cX6_init 25 = .ok (.putfield 18, 3) := by decide +kernel
theorem dX6_init_28 : decode cX6_init 28 = .ok (.aload_n 0, 1) := by decide +kernel
theorem dX6_init_29 : decode cX6_init 29 = .ok (.bipush 64, 2) := by decide +kernel
theorem dX6_init_31 : decode cX6_init 31 = .ok (.newarray .byte, 2) := by decide +kernel
theorem dX6_init_33 : decode cX6_init 33 = .ok (.putfield 21, 3) := by decide +kernel
theorem dX6_init_36 : decode cX6_init 36 = .ok (.aload_n 0, 1) := by decide +kernel
theorem dX6_init_37 : decode cX6_init 37 = .ok (.bipush 32, 2) := by decide +kernel
theorem dX6_init_39 : decode cX6_init 39 = .ok (.newarray .byte, 2) := by decide +kernel
theorem dX6_init_41 : decode cX6_init 41 = .ok (.putfield 25, 3) := by decide +kernel
theorem dX6_init_44 : decode cX6_init 44 = .ok (.aload_n 0, 1) := by decide +kernel
theorem dX6_init_45 : decode cX6_init 45 = .ok (.sipush 416, 3) := by decide +kernel
theorem dX6_init_48 : decode cX6_init 48 = .ok (.newarray .byte, 2) := by decide +kernel
theorem dX6_init_50 : decode cX6_init 50 = .ok (.putfield 28, 3) := by decide +kernel
theorem dX6_init_53 : decode cX6_init 53 = .ok (.return_, 1) := by decide +kernel
abbrev mX6_sha : ks_M := (RX6, cX6_sha, 8, none, "sha")
theorem dX6_sha_0 : decode cX6_sha 0 = .ok (.getstatic 31, 3) := by decide +kernel
theorem dX6_sha_3 : decode cX6_sha 3 = .ok (.iconst 0, 1) := by decide +kernel
theorem dX6_sha_4 : decode cX6_sha 4 = .ok (.aload_n 0, 1) := by decide +kernel
theorem dX6_sha_5 : decode cX6_sha 5 = .ok (.getfield 9, 3) := by decide +kernel
theorem dX6_sha_8 : decode cX6_sha 8 = .ok (.iconst 0, 1) := by decide +kernel
theorem dX6_sha_9 : decode cX6_sha 9 = .ok (.bipush 8, 2) := by decide +kernel
theorem dX6_sha_11 : decode cX6_sha 11 = .ok (.invokestatic 34, 3) := by decide +kernel
theorem dX6_sha_14 : decode cX6_sha 14 = .ok (.iload_n 3, 1) := by decide +kernel
theorem dX6_sha_15 : decode cX6_sha 15 = .ok (.bipush 64, 2) := by decide +kernel
theorem dX6_sha_17 : decode cX6_sha 17 = .ok (.idiv, 1) := by decide +kernel
theorem dX6_sha_18 : decode cX6_sha 18 = .ok (.bipush 64, 2) := by decide +kernel
theorem dX6_sha_20 : decode cX6_sha 20 = .ok (.imul, 1) := by decide +kernel
theorem dX6_sha_21 : decode cX6_sha 21 = .ok (.istore 6, 2) := by decide +kernel
theorem dX6_sha_23 : decode cX6_sha 23 = .ok (.iconst 0, 1) := by decide +kernel
theorem dX6_sha_24 : decode cX6_sha 24 = .ok (.istore 7, 2) := by decide +kernel
theorem dX6_sha_26 : decode cX6_sha 26 = .ok (.iload 7, 2) := by decide +kernel
theorem dX6_sha_28 : decode cX6_sha 28 = .ok (.iload 6, 2) := by decide +kernel
theorem dX6_sha_30 : decode cX6_sha 30 = .ok (.if_icmp .ge 18, 3) := by decide +kernel
theorem dX6_sha_33 : decode cX6_sha 33 = .ok (.aload_n 0, 1) := by decide +kernel
theorem dX6_sha_34 : decode cX6_sha 34 = .ok (.aload_n 1, 1) := by decide +kernel
theorem dX6_sha_35 : decode cX6_sha 35 = .ok (.iload_n 2, 1) := by decide +kernel
theorem dX6_sha_36 : decode cX6_sha 36 = .ok (.iload 7, 2) := by decide +kernel
theorem dX6_sha_38 : decode cX6_sha 38 = .ok (.iadd, 1) := by decide +kernel
theorem dX6_sha_39 : decode cX6_sha 39 = .ok (.invokevirtual 40, 3) := by decide +kernel
theorem dX6_sha_42 : decode cX6_sha 42 = .ok (.iinc 7 64, 3) := by decide +kernel
theorem dX6_sha_45 : decode cX6_sha 45 = .ok (.goto (-19), 3) := by decide +kernel
theorem dX6_sha_48 : decode cX6_sha 48 = .ok (.aload_n 0, 1) := by decide +kernel
theorem dX6_sha_49 : decode cX6_sha 49 = .ok (.aload_n 1, 1) := by decide +kernel
theorem dX6_sha_50 : decode cX6_sha 50 = .ok (.iload_n 2, 1) := by decide +kernel
theorem dX6_sha_51 : decode cX6_sha 51 = .ok (.iload 6, 2) := by decide +kernel
theorem dX6_sha_53 : decode cX6_sha 53 = .ok (.iadd, 1) := by decide +kernel
theorem dX6_sha_54 : decode cX6_sha 54 = .ok (.iload_n 3, 1) := by decide +kernel
theorem dX6_sha_55 : decode cX6_sha 55 = .ok (.iload 6, 2) := by decide +kernel
theorem dX6_sha_57 : decode cX6_sha 57 = .ok (.isub, 1) := by decide +kernel
theorem dX6_sha_58 : decode cX6_sha 58 = .ok (.invokevirtual 44, 3) := by decide +kernel
theorem dX6_sha_61 : decode cX6_sha 61 = .ok (.ifCond .ne 20, 3) := by decide +kernel
theorem dX6_sha_64 : decode cX6_sha 64 = .ok (.aload_n 0, 1) := by decide +kernel
theorem dX6_sha_65 : decode cX6_sha 65 = .ok (.aload_n 0, 1) := by decide +kernel
theorem dX6_sha_66 : decode cX6_sha 66 = .ok (.getfield 21, 3) := by decide +kernel
theorem dX6_sha_69 : decode cX6_sha 69 = .ok (.iconst 0, 1) := by decide +kernel
theorem dX6_sha_70 : decode cX6_sha 70 = .ok (.invokevirtual 40, 3) := by decide +kernel
theorem dX6_sha_73 : decode cX6_sha 73 = .ok (.aload_n 0, 1) := by decide +kernel
theorem dX6_sha_74 : decode cX6_sha 74 = .ok (.getfield 21, 3) := by decide +kernel
theorem dX6_sha_77 : decode cX6_sha 77 = .ok (.iconst 0, 1) := by decide +kernel
theorem dX6_sha_78 : decode cX6_sha 78 = .ok (.invokestatic 48, 3) := by decide +kernel
theorem dX6_sha_81 : decode cX6_sha 81 = .ok (.iconst 0, 1) := by decide +kernel
theorem dX6_sha_82 : decode cX6_sha 82 = .ok (.istore 7, 2) := by decide +kernel
theorem dX6_sha_84 : decode cX6_sha 84 = .ok (.iload 7, 2) := by decide +kernel
theorem dX6_sha_86 : decode cX6_sha 86 = .ok (.bipush 8, 2) := by decide +kernel
theorem dX6_sha_88 : decode cX6_sha 88 = .ok (.if_icmp .ge 33, 3) := by decide +kernel
theorem dX6_sha_91 : decode cX6_sha 91 = .ok (.aload_n 0, 1) := by decide +kernel
theorem dX6_sha_92 : decode cX6_sha 92 = .ok (.getfield 21, 3) := by decide +kernel
theorem dX6_sha_95 : decode cX6_sha 95 = .ok (.bipush 63, 2) := by decide +kernel
theorem dX6_sha_97 : decode cX6_sha 97 = .ok (.iload 7, 2) := by decide +kernel
theorem dX6_sha_99 : decode cX6_sha 99 = .ok (.isub, 1) := by decide +kernel
theorem dX6_sha_100 : decode cX6_sha 100 = .ok (.ldc2_w 54, 3) := by decide +kernel
theorem dX6_sha_103 : decode cX6_sha 103 = .ok (.iload_n 3, 1) := by decide +kernel
theorem dX6_sha_104 : decode cX6_sha 104 = .ok (.i2l, 1) := by decide +kernel
theorem dX6_sha_105 : decode cX6_sha 105 = .ok (.lmul, 1) := by decide +kernel
theorem dX6_sha_106 : decode cX6_sha 106 = .ok (.bipush 8, 2) := by decide +kernel
theorem dX6_sha_108 : decode cX6_sha 108 = .ok (.iload 7, 2) := by decide +kernel
theorem dX6_sha_110 : decode cX6_sha 110 = .ok (.imul, 1) := by decide +kernel
theorem dX6_sha_111 : decode cX6_sha 111 = .ok (.lushr, 1) := by decide +kernel
theorem dX6_sha_112 : decode cX6_sha 112 = .ok (.l2i, 1) := by decide +kernel
theorem dX6_sha_113 : decode cX6_sha 113 = .ok (.i2b, 1) := by decide +kernel
theorem dX6_sha_114 : decode cX6_sha 114 = .ok (.bastore, 1) := by decide +kernel
theorem dX6_sha_115 : decode cX6_sha 115 = .ok (.iinc 7 1, 3) := by decide +kernel
theorem dX6_sha_118 : decode cX6_sha 118 = .ok (.goto (-34), 3) := by decide +kernel
theorem dX6_sha_121 : decode cX6_sha 121 = .ok (.aload_n 0, 1) := by decide +kernel
theorem dX6_sha_122 : decode cX6_sha 122 = .ok (.aload_n 0, 1) := by decide +kernel
theorem dX6_sha_123 : decode cX6_sha 123 = .ok (.getfield 21, 3) := by decide +kernel
theorem dX6_sha_126 : decode cX6_sha 126 = .ok (.iconst 0, 1) := by decide +kernel
theorem dX6_sha_127 : decode cX6_sha 127 = .ok (.invokevirtual 40, 3) := by decide +kernel
theorem dX6_sha_130 : decode cX6_sha 130 = .ok (.iconst 0, 1) := by decide +kernel
theorem dX6_sha_131 : decode cX6_sha 131 = .ok (.istore 7, 2) := by decide +kernel
theorem dX6_sha_133 : decode cX6_sha 133 = .ok (.iload 7, 2) := by decide +kernel
theorem dX6_sha_135 : decode cX6_sha 135 = .ok (.bipush 32, 2) := by decide +kernel
theorem dX6_sha_137 : decode cX6_sha 137 = .ok (.if_icmp .ge 38, 3) := by decide +kernel
theorem dX6_sha_140 : decode cX6_sha 140 = .ok (.aload 4, 2) := by decide +kernel
theorem dX6_sha_142 : decode cX6_sha 142 = .ok (.iload 5, 2) := by decide +kernel
theorem dX6_sha_144 : decode cX6_sha 144 = .ok (.iload 7, 2) := by decide +kernel
theorem dX6_sha_146 : decode cX6_sha 146 = .ok (.iadd, 1) := by decide +kernel
theorem dX6_sha_147 : decode cX6_sha 147 = .ok (.aload_n 0, 1) := by decide +kernel
theorem dX6_sha_148 : decode cX6_sha 148 = .ok (.getfield 9, 3) := by decide +kernel
theorem dX6_sha_151 : decode cX6_sha 151 = .ok (.iload 7, 2) := by decide +kernel
theorem dX6_sha_153 : decode cX6_sha 153 = .ok (.iconst 4, 1) := by decide +kernel
theorem dX6_sha_154 : decode cX6_sha 154 = .ok (.idiv, 1) := by decide +kernel
theorem dX6_sha_155 : decode cX6_sha 155 = .ok (.iaload, 1) := by decide +kernel
theorem dX6_sha_156 : decode cX6_sha 156 = .ok (.bipush 24, 2) := by decide +kernel
theorem dX6_sha_158 : decode cX6_sha 158 = .ok (.bipush 8, 2) := by decide +kernel
theorem dX6_sha_160 : decode cX6_sha 160 = .ok (.iload 7, 2) := by decide +kernel
theorem dX6_sha_162 : decode cX6_sha 162 = .ok (.iconst 4, 1) := by decide +kernel
theorem dX6_sha_163 : decode cX6_sha 163 = .ok (.irem, 1) := by decide +kernel
theorem dX6_sha_164 : decode cX6_sha 164 = .ok (.imul, 1) := by decide +kernel
theorem dX6_sha_165 : decode cX6_sha 165 = .ok (.isub, 1) := by decide +kernel
theorem dX6_sha_166 : decode cX6_sha 166 = .ok (.iushr, 1) := by decide +kernel
theorem dX6_sha_167 : decode cX6_sha 167 = .ok (.i2b, 1) := by decide +kernel
theorem dX6_sha_168 : decode cX6_sha 168 = .ok (.bastore, 1) := by decide +kernel
theorem dX6_sha_169 : decode cX6_sha 169 = .ok (.iinc 7 1, 3) := by decide +kernel
theorem dX6_sha_172 : decode cX6_sha 172 = .ok (.goto (-39), 3) := by decide +kernel
theorem dX6_sha_175 : decode cX6_sha 175 = .ok (.return_, 1) := by decide +kernel
abbrev mX6_ripe : ks_M := (RX6, cX6_ripe, 8, none, "ripe")
theorem dX6_ripe_0 : decode cX6_ripe 0 = .ok (.getstatic 56, 3) := by decide +kernel
theorem dX6_ripe_3 : decode cX6_ripe 3 = .ok (.iconst 0, 1) := by decide +kernel
theorem dX6_ripe_4 : decode cX6_ripe 4 = .ok (.aload_n 0, 1) := by decide +kernel
theorem dX6_ripe_5 : decode cX6_ripe 5 = .ok (.getfield 9, 3) := by decide +kernel
theorem dX6_ripe_8 : decode cX6_ripe 8 = .ok (.iconst 0, 1) := by decide +kernel
theorem dX6_ripe_9 : decode cX6_ripe 9 = .ok (.iconst 5, 1) := by decide +kernel
theorem dX6_ripe_10 : decode cX6_ripe 10 = .ok (.invokestatic 34, 3) := by decide +kernel
theorem dX6_ripe_13 : decode cX6_ripe 13 = .ok (.iload_n 3, 1) := by decide +kernel
theorem dX6_ripe_14 : decode cX6_ripe 14 = .ok (.bipush 64, 2) := by decide +kernel
theorem dX6_ripe_16 : decode cX6_ripe 16 = .ok (.idiv, 1) := by decide +kernel
theorem dX6_ripe_17 : decode cX6_ripe 17 = .ok (.bipush 64, 2) := by decide +kernel
theorem dX6_ripe_19 : decode cX6_ripe 19 = .ok (.imul, 1) := by decide +kernel
theorem dX6_ripe_20 : decode cX6_ripe 20 = .ok (.istore 6, 2) := by decide +kernel
theorem dX6_ripe_22 : decode cX6_ripe 22 = .ok (.iconst 0, 1) := by decide +kernel
theorem dX6_ripe_23 : decode cX6_ripe 23 = .ok (.istore 7, 2) := by decide +kernel
theorem dX6_ripe_25 : decode cX6_ripe 25 = .ok (.iload 7, 2) := by decide +kernel
theorem dX6_ripe_27 : decode cX6_ripe 27 = .ok (.iload 6, 2) := by decide +kernel
theorem dX6_ripe_29 : decode cX6_ripe 29 = .ok (.if_icmp .ge 18, 3) := by decide +kernel
theorem dX6_ripe_32 : decode cX6_ripe 32 = .ok (.aload_n 0, 1) := by decide +kernel
theorem dX6_ripe_33 : decode cX6_ripe 33 = .ok (.aload_n 1, 1) := by decide +kernel
theorem dX6_ripe_34 : decode cX6_ripe 34 = .ok (.iload_n 2, 1) := by decide +kernel
theorem dX6_ripe_35 : decode cX6_ripe 35 = .ok (.iload 7, 2) := by decide +kernel
theorem dX6_ripe_37 : decode cX6_ripe 37 = .ok (.iadd, 1) := by decide +kernel
theorem dX6_ripe_38 : decode cX6_ripe 38 = .ok (.invokevirtual 59, 3) := by decide +kernel
theorem dX6_ripe_41 : decode cX6_ripe 41 = .ok (.iinc 7 64, 3) := by decide +kernel
theorem dX6_ripe_44 : decode cX6_ripe 44 = .ok (.goto (-19), 3) := by decide +kernel
theorem dX6_ripe_47 : decode cX6_ripe 47 = .ok (.aload_n 0, 1) := by decide +kernel
theorem dX6_ripe_48 : decode cX6_ripe 48 = .ok (.aload_n 1, 1) := by decide +kernel
theorem dX6_ripe_49 : decode cX6_ripe 49 = .ok (.iload_n 2, 1) := by decide +kernel
theorem dX6_ripe_50 : decode cX6_ripe 50 = .ok (.iload 6, 2) := by decide +kernel
theorem dX6_ripe_52 : decode cX6_ripe 52 = .ok (.iadd, 1) := by decide +kernel
theorem dX6_ripe_53 : decode cX6_ripe 53 = .ok (.iload_n 3, 1) := by decide +kernel
theorem dX6_ripe_54 : decode cX6_ripe 54 = .ok (.iload 6, 2) := by decide +kernel
theorem dX6_ripe_56 : decode cX6_ripe 56 = .ok (.isub, 1) := by decide +kernel
theorem dX6_ripe_57 : decode cX6_ripe 57 = .ok (.invokevirtual 44, 3) := by decide +kernel
theorem dX6_ripe_60 : decode cX6_ripe 60 = .ok (.ifCond .ne 20, 3) := by decide +kernel
theorem dX6_ripe_63 : decode cX6_ripe 63 = .ok (.aload_n 0, 1) := by decide +kernel
theorem dX6_ripe_64 : decode cX6_ripe 64 = .ok (.aload_n 0, 1) := by decide +kernel
theorem dX6_ripe_65 : decode cX6_ripe 65 = .ok (.getfield 21, 3) := by decide +kernel
theorem dX6_ripe_68 : decode cX6_ripe 68 = .ok (.iconst 0, 1) := by decide +kernel
theorem dX6_ripe_69 : decode cX6_ripe 69 = .ok (.invokevirtual 59, 3) := by decide +kernel
theorem dX6_ripe_72 : decode cX6_ripe 72 = .ok (.aload_n 0, 1) := by decide +kernel
theorem dX6_ripe_73 : decode cX6_ripe 73 = .ok (.getfield 21, 3) := by decide +kernel
theorem dX6_ripe_76 : decode cX6_ripe 76 = .ok (.iconst 0, 1) := by decide +kernel
theorem dX6_ripe_77 : decode cX6_ripe 77 = .ok (.invokestatic 48, 3) := by decide +kernel
theorem dX6_ripe_80 : decode cX6_ripe 80 = .ok (.iconst 0, 1) := by decide +kernel
theorem dX6_ripe_81 : decode cX6_ripe 81 = .ok (.istore 7, 2) := by decide +kernel
theorem dX6_ripe_83 : decode cX6_ripe 83 = .ok (.iload 7, 2) := by decide +kernel
theorem dX6_ripe_85 : decode cX6_ripe 85 = .ok (.bipush 8, 2) := by decide +kernel
theorem dX6_ripe_87 : decode cX6_ripe 87 = .ok (.if_icmp .ge 33, 3) := by decide +kernel
theorem dX6_ripe_90 : decode cX6_ripe 90 = .ok (.aload_n 0, 1) := by decide +kernel
theorem dX6_ripe_91 : decode cX6_ripe 91 = .ok (.getfield 21, 3) := by decide +kernel
theorem dX6_ripe_94 : decode cX6_ripe 94 = .ok (.bipush 56, 2) := by decide +kernel
theorem dX6_ripe_96 : decode cX6_ripe 96 = .ok (.iload 7, 2) := by decide +kernel
theorem dX6_ripe_98 : decode cX6_ripe 98 = .ok (.iadd, 1) := by decide +kernel
theorem dX6_ripe_99 : decode cX6_ripe 99 = .ok (.ldc2_w 54, 3) := by decide +kernel
theorem dX6_ripe_102 : decode cX6_ripe 102 = .ok (.iload_n 3, 1) := by decide +kernel
theorem dX6_ripe_103 : decode cX6_ripe 103 = .ok (.i2l, 1) := by decide +kernel
theorem dX6_ripe_104 : decode cX6_ripe 104 = .ok (.lmul, 1) := by decide +kernel
theorem dX6_ripe_105 : decode cX6_ripe 105 = .ok (.bipush 8, 2) := by decide +kernel
theorem dX6_ripe_107 : decode cX6_ripe 107 = .ok (.iload 7, 2) := by decide +kernel
theorem dX6_ripe_109 : decode cX6_ripe 109 = .ok (.imul, 1) := by decide +kernel
theorem dX6_ripe_110 : decode cX6_ripe 110 = .ok (.lushr, 1) := by decide +kernel
theorem dX6_ripe_111 : decode cX6_ripe 111 = .ok (.l2i, 1) := by decide +kernel
theorem dX6_ripe_112 : decode cX6_ripe 112 = .ok (.i2b, 1) := by decide +kernel
theorem dX6_ripe_113 : decode cX6_ripe 113 = .ok (.bastore, 1) := by decide +kernel
theorem dX6_ripe_114 : decode cX6_ripe 114 = .ok (.iinc 7 1, 3) := by decide +kernel
theorem dX6_ripe_117 : decode cX6_ripe 117 = .ok (.goto (-34), 3) := by decide +kernel
theorem dX6_ripe_120 : decode cX6_ripe 120 = .ok (.aload_n 0, 1) := by decide +kernel
theorem dX6_ripe_121 : decode cX6_ripe 121 = .ok (.aload_n 0, 1) := by decide +kernel
theorem dX6_ripe_122 : decode cX6_ripe 122 = .ok (.getfield 21, 3) := by decide +kernel
theorem dX6_ripe_125 : decode cX6_ripe 125 = .ok (.iconst 0, 1) := by decide +kernel
theorem dX6_ripe_126 : decode cX6_ripe 126 = .ok (.invokevirtual 59, 3) := by decide +kernel
theorem dX6_ripe_129 : decode cX6_ripe 129 = .ok (.iconst 0, 1) := by decide +kernel
theorem dX6_ripe_130 : decode cX6_ripe 130 = .ok (.istore 7, 2) := by decide +kernel
theorem dX6_ripe_132 : decode cX6_ripe 132 = .ok (.iload 7, 2) := by decide +kernel
theorem dX6_ripe_134 : decode cX6_ripe 134 = .ok (.bipush 20, 2) := by decide +kernel
theorem dX6_ripe_136 : decode cX6_ripe 136 = .ok (.if_icmp .ge 35, 3) := by decide +kernel
theorem dX6_ripe_139 : decode cX6_ripe 139 = .ok (.aload 4, 2) := by decide +kernel
theorem dX6_ripe_141 : decode cX6_ripe 141 = .ok (.iload 5, 2) := by decide +kernel
theorem dX6_ripe_143 : decode cX6_ripe 143 = .ok (.iload 7, 2) := by decide +kernel
theorem dX6_ripe_145 : decode cX6_ripe 145 = .ok (.iadd, 1) := by decide +kernel
theorem dX6_ripe_146 : decode cX6_ripe 146 = .ok (.aload_n 0, 1) := by decide +kernel
theorem dX6_ripe_147 : decode cX6_ripe 147 = .ok (.getfield 9, 3) := by decide +kernel
theorem dX6_ripe_150 : decode cX6_ripe 150 = .ok (.iload 7, 2) := by decide +kernel
theorem dX6_ripe_152 : decode cX6_ripe 152 = .ok (.iconst 4, 1) := by decide +kernel
theorem dX6_ripe_153 : decode cX6_ripe 153 = .ok (.idiv, 1) := by decide +kernel
theorem dX6_ripe_154 : decode cX6_ripe 154 = .ok (.iaload, 1) := by decide +kernel
theorem dX6_ripe_155 : decode cX6_ripe 155 = .ok (.bipush 8, 2) := by decide +kernel
theorem dX6_ripe_157 : decode cX6_ripe 157 = .ok (.iload 7, 2) := by decide +kernel
theorem dX6_ripe_159 : decode cX6_ripe 159 = .ok (.iconst 4, 1) := by decide +kernel
theorem dX6_ripe_160 : decode cX6_ripe 160 = .ok (.irem, 1) := by decide +kernel
theorem dX6_ripe_161 : decode cX6_ripe 161 = .ok (.imul, 1) := by decide +kernel
theorem dX6_ripe_162 : decode cX6_ripe 162 = .ok (.iushr, 1) := by decide +kernel
theorem dX6_ripe_163 : decode cX6_ripe 163 = .ok (.i2b, 1) := by decide +kernel
theorem dX6_ripe_164 : decode cX6_ripe 164 = .ok (.bastore, 1) := by decide +kernel
theorem dX6_ripe_165 : decode cX6_ripe 165 = .ok (.iinc 7 1, 3) := by decide +kernel
theorem dX6_ripe_168 : decode cX6_ripe 168 = .ok (.goto (-36), 3) := by decide +kernel
theorem dX6_ripe_171 : decode cX6_ripe 171 = .ok (.return_, 1) := by decide +kernel
abbrev mX6_twice : ks_M := (RX6, cX6_twice, 6, none, "twice")
theorem dX6_twice_0 : decode cX6_twice 0 = .ok (.aload_n 0, 1) := by decide +kernel
theorem dX6_twice_1 : decode cX6_twice 1 = .ok (.aload_n 1, 1) := by decide +kernel
theorem dX6_twice_2 : decode cX6_twice 2 = .ok (.iload_n 2, 1) := by decide +kernel
theorem dX6_twice_3 : decode cX6_twice 3 = .ok (.iload_n 3, 1) := by decide +kernel
theorem dX6_twice_4 : decode cX6_twice 4 = .ok (.aload_n 0, 1) := by decide +kernel
theorem dX6_twice_5 : decode cX6_twice 5 = .ok (.getfield 25, 3) := by decide +kernel
theorem dX6_twice_8 : decode cX6_twice 8 = .ok (.iconst 0, 1) := by decide +kernel
theorem dX6_twice_9 : decode cX6_twice 9 = .ok (.invokevirtual 62, 3) := by decide +kernel
theorem dX6_twice_12 : decode cX6_twice 12 = .ok (.aload_n 0, 1) := by decide +kernel
theorem dX6_twice_13 : decode cX6_twice 13 = .ok (.aload_n 0, 1) := by decide +kernel
theorem dX6_twice_14 : decode cX6_twice 14 = .ok (.getfield 25, 3) := by decide +kernel
theorem dX6_twice_17 : decode cX6_twice 17 = .ok (.iconst 0, 1) := by decide +kernel
theorem dX6_twice_18 : decode cX6_twice 18 = .ok (.bipush 32, 2) := by decide +kernel
theorem dX6_twice_20 : decode cX6_twice 20 = .ok (.aload 4, 2) := by decide +kernel
theorem dX6_twice_22 : decode cX6_twice 22 = .ok (.iload 5, 2) := by decide +kernel
theorem dX6_twice_24 : decode cX6_twice 24 = .ok (.invokevirtual 62, 3) := by decide +kernel
theorem dX6_twice_27 : decode cX6_twice 27 = .ok (.return_, 1) := by decide +kernel
abbrev mX6_hash160 : ks_M := (RX6, cX6_hash160, 6, none, "hash160")
theorem dX6_hash160_0 : decode cX6_hash160 0 = .ok (.aload_n 0, 1) := by decide +kernel
theorem dX6_hash160_1 : decode cX6_hash160 1 = .ok (.aload_n 1, 1) := by decide +kernel
theorem dX6_hash160_2 : decode cX6_hash160 2 = .ok (.iload_n 2, 1) := by decide +kernel
theorem dX6_hash160_3 : decode cX6_hash160 3 = .ok (.iload_n 3, 1) := by decide +kernel
theorem dX6_hash160_4 : decode cX6_hash160 4 = .ok (.aload_n 0, 1) := by decide +kernel
theorem dX6_hash160_5 : decode cX6_hash160 5 = .ok (.getfield 25, 3) := by decide +kernel
theorem dX6_hash160_8 : decode cX6_hash160 8 = .ok (.iconst 0, 1) := by decide +kernel
theorem dX6_hash160_9 : decode cX6_hash160 9 = .ok (.invokevirtual 62, 3) := by decide +kernel
theorem dX6_hash160_12 : decode cX6_hash160 12 = .ok (.aload_n 0, 1) := by decide +kernel
theorem dX6_hash160_13 : decode cX6_hash160 13 = .ok (.aload_n 0, 1) := by decide +kernel
theorem dX6_hash160_14 : decode cX6_hash160 14 = .ok (.getfield 25, 3) := by decide +kernel
theorem dX6_hash160_17 : decode cX6_hash160 17 = .ok (.iconst 0, 1) := by decide +kernel
theorem dX6_hash160_18 : decode cX6_hash160 18 = .ok (.bipush 32, 2) := by decide +kernel
theorem dX6_hash160_20 : decode cX6_hash160 20 = .ok (.aload 4, 2) := by decide +kernel
theorem dX6_hash160_22 : decode cX6_hash160 22 = .ok (.iload 5, 2) := by decide +kernel
theorem dX6_hash160_24 : decode cX6_hash160 24 = .ok (.invokevirtual 66, 3) := by decide +kernel
theorem dX6_hash160_27 : decode cX6_hash160 27 = .ok (.return_, 1) := by decide +kernel
abbrev mX6_root : ks_M := (RX6, cX6_root, 6, none, "root")
theorem dX6_root_0 : decode cX6_root 0 = .ok (.aload_n 0, 1) := by decide +kernel
theorem dX6_root_1 : decode cX6_root 1 = .ok (.getfield 28, 3) := by decide +kernel
theorem dX6_root_4 : decode cX6_root 4 = .ok (.iconst 0, 1) := by decide +kernel
theorem dX6_root_5 : decode cX6_root 5 = .ok (.bipush 32, 2) := by decide +kernel
theorem dX6_root_7 : decode cX6_root 7 = .ok (.iconst 0, 1) := by decide +kernel
theorem dX6_root_8 : decode cX6_root 8 = .ok (.invokestatic 69, 3) := by decide +kernel
theorem dX6_root_11 : decode cX6_root 11 = .ok (.aload_n 1, 1) := by decide +kernel
theorem dX6_root_12 : decode cX6_root 12 = .ok (.iconst 0, 1) := by decide +kernel
theorem dX6_root_13 : decode cX6_root 13 = .ok (.aload_n 0, 1) := by decide +kernel
theorem dX6_root_14 : decode cX6_root 14 = .ok (.getfield 28, 3) := by decide +kernel
theorem dX6_root_17 : decode cX6_root 17 = .ok (.iconst 0, 1) := by decide +kernel
theorem dX6_root_18 : decode cX6_root 18 = .ok (.bipush 32, 2) := by decide +kernel
theorem dX6_root_20 : decode cX6_root 20 = .ok (.iload_n 2, 1) := by decide +kernel
theorem dX6_root_21 : decode cX6_root 21 = .ok (.imul, 1) := by decide +kernel
theorem dX6_root_22 : decode cX6_root 22 = .ok (.invokestatic 34, 3) := by decide +kernel
theorem dX6_root_25 : decode cX6_root 25 = .ok (.iload_n 2, 1) := by decide +kernel
theorem dX6_root_26 : decode cX6_root 26 = .ok (.istore 4, 2) := by decide +kernel
theorem dX6_root_28 : decode cX6_root 28 = .ok (.iload 4, 2) := by decide +kernel
theorem dX6_root_30 : decode cX6_root 30 = .ok (.iconst 1, 1) := by decide +kernel
theorem dX6_root_31 : decode cX6_root 31 = .ok (.if_icmp .le 81, 3) := by decide +kernel
theorem dX6_root_34 : decode cX6_root 34 = .ok (.aload_n 0, 1) := by decide +kernel
theorem dX6_root_35 : decode cX6_root 35 = .ok (.getfield 28, 3) := by decide +kernel
theorem dX6_root_38 : decode cX6_root 38 = .ok (.bipush 32, 2) := by decide +kernel
theorem dX6_root_40 : decode cX6_root 40 = .ok (.iload 4, 2) := by decide +kernel
theorem dX6_root_42 : decode cX6_root 42 = .ok (.iconst 1, 1) := by decide +kernel
theorem dX6_root_43 : decode cX6_root 43 = .ok (.isub, 1) := by decide +kernel
theorem dX6_root_44 : decode cX6_root 44 = .ok (.imul, 1) := by decide +kernel
theorem dX6_root_45 : decode cX6_root 45 = .ok (.aload_n 0, 1) := by decide +kernel
theorem dX6_root_46 : decode cX6_root 46 = .ok (.getfield 28, 3) := by decide +kernel
theorem dX6_root_49 : decode cX6_root 49 = .ok (.bipush 32, 2) := by decide +kernel
theorem dX6_root_51 : decode cX6_root 51 = .ok (.iload 4, 2) := by decide +kernel
theorem dX6_root_53 : decode cX6_root 53 = .ok (.imul, 1) := by decide +kernel
theorem dX6_root_54 : decode cX6_root 54 = .ok (.bipush 32, 2) := by decide +kernel
theorem dX6_root_56 : decode cX6_root 56 = .ok (.invokestatic 34, 3) := by decide +kernel
theorem dX6_root_59 : decode cX6_root 59 = .ok (.iconst 0, 1) := by decide +kernel
theorem dX6_root_60 : decode cX6_root 60 = .ok (.istore 5, 2) := by decide +kernel
theorem dX6_root_62 : decode cX6_root 62 = .ok (.iconst 2, 1) := by decide +kernel
theorem dX6_root_63 : decode cX6_root 63 = .ok (.iload 5, 2) := by decide +kernel
theorem dX6_root_65 : decode cX6_root 65 = .ok (.imul, 1) := by decide +kernel
theorem dX6_root_66 : decode cX6_root 66 = .ok (.iload 4, 2) := by decide +kernel
theorem dX6_root_68 : decode cX6_root 68 = .ok (.if_icmp .ge 33, 3) := by decide +kernel
theorem dX6_root_71 : decode cX6_root 71 = .ok (.aload_n 0, 1) := by decide +kernel
theorem dX6_root_72 : decode cX6_root 72 = .ok (.aload_n 0, 1) := by decide +kernel
theorem dX6_root_73 : decode cX6_root 73 = .ok (.getfield 28, 3) := by decide +kernel
theorem dX6_root_76 : decode cX6_root 76 = .ok (.bipush 64, 2) := by decide +kernel
theorem dX6_root_78 : decode cX6_root 78 = .ok (.iload 5, 2) := by decide +kernel
theorem dX6_root_80 : decode cX6_root 80 = .ok (.imul, 1) := by decide +kernel
theorem dX6_root_81 : decode cX6_root 81 = .ok (.bipush 64, 2) := by decide +kernel
theorem dX6_root_83 : decode cX6_root 83 = .ok (.aload_n 0, 1) := by decide +kernel
theorem dX6_root_84 : decode cX6_root 84 = .ok (.getfield 28, 3) := by decide +kernel
theorem dX6_root_87 : decode cX6_root 87 = .ok (.bipush 32, 2) := by decide +kernel
theorem dX6_root_89 : decode cX6_root 89 = .ok (.iload 5, 2) := by decide +kernel
theorem dX6_root_91 : decode cX6_root 91 = .ok (.imul, 1) := by decide +kernel
theorem dX6_root_92 : decode cX6_root 92 = .ok (.invokevirtual 72, 3) := by decide +kernel
theorem dX6_root_95 : decode cX6_root 95 = .ok (.iinc 5 1, 3) := by decide +kernel
theorem dX6_root_98 : decode cX6_root 98 = .ok (.goto (-36), 3) := by decide +kernel
theorem dX6_root_101 : decode cX6_root 101 = .ok (.iload 4, 2) := by decide +kernel
theorem dX6_root_103 : decode cX6_root 103 = .ok (.iconst 1, 1) := by decide +kernel
theorem dX6_root_104 : decode cX6_root 104 = .ok (.iadd, 1) := by decide +kernel
theorem dX6_root_105 : decode cX6_root 105 = .ok (.iconst 2, 1) := by decide +kernel
theorem dX6_root_106 : decode cX6_root 106 = .ok (.idiv, 1) := by decide +kernel
theorem dX6_root_107 : decode cX6_root 107 = .ok (.istore 4, 2) := by decide +kernel
theorem dX6_root_109 : decode cX6_root 109 = .ok (.goto (-81), 3) := by decide +kernel
theorem dX6_root_112 : decode cX6_root 112 = .ok (.aload_n 0, 1) := by decide +kernel
theorem dX6_root_113 : decode cX6_root 113 = .ok (.getfield 28, 3) := by decide +kernel
theorem dX6_root_116 : decode cX6_root 116 = .ok (.iconst 0, 1) := by decide +kernel
theorem dX6_root_117 : decode cX6_root 117 = .ok (.aload_n 3, 1) := by decide +kernel
theorem dX6_root_118 : decode cX6_root 118 = .ok (.iconst 0, 1) := by decide +kernel
theorem dX6_root_119 : decode cX6_root 119 = .ok (.bipush 32, 2) := by decide +kernel
theorem dX6_root_121 : decode cX6_root 121 = .ok (.invokestatic 34, 3) := by decide +kernel
theorem dX6_root_124 : decode cX6_root 124 = .ok (.return_, 1) := by decide +kernel
abbrev mX6_pad : ks_M := (RX6, cX6_pad, 4, (some .boolean), "pad")
theorem dX6_pad_0 : decode cX6_pad 0 = .ok (.aload_n 1, 1) := by decide +kernel
theorem dX6_pad_1 : decode cX6_pad 1 = .ok (.iload_n 2, 1) := by decide +kernel
theorem dX6_pad_2 : decode cX6_pad 2 = .ok (.aload_n 0, 1) := by decide +kernel
theorem dX6_pad_3 : decode cX6_pad 3 = .ok (.getfield 21, 3) := by decide +kernel
theorem dX6_pad_6 : decode cX6_pad 6 = .ok (.iconst 0, 1) := by decide +kernel
theorem dX6_pad_7 : decode cX6_pad 7 = .ok (.iload_n 3, 1) := by decide +kernel
theorem dX6_pad_8 : decode cX6_pad 8 = .ok (.invokestatic 34, 3) := by decide +kernel
theorem dX6_pad_11 : decode cX6_pad 11 = .ok (.aload_n 0, 1) := by decide +kernel
theorem dX6_pad_12 : decode cX6_pad 12 = .ok (.getfield 21, 3) := by decide +kernel
theorem dX6_pad_15 : decode cX6_pad 15 = .ok (.iload_n 3, 1) := by decide +kernel
theorem dX6_pad_16 : decode cX6_pad 16 = .ok (.bipush 64, 2) := by decide +kernel
theorem dX6_pad_18 : decode cX6_pad 18 = .ok (.iconst 0, 1) := by decide +kernel
theorem dX6_pad_19 : decode cX6_pad 19 = .ok (.invokestatic 69, 3) := by decide +kernel
theorem dX6_pad_22 : decode cX6_pad 22 = .ok (.aload_n 0, 1) := by decide +kernel
theorem dX6_pad_23 : decode cX6_pad 23 = .ok (.getfield 21, 3) := by decide +kernel
theorem dX6_pad_26 : decode cX6_pad 26 = .ok (.iload_n 3, 1) := by decide +kernel
theorem dX6_pad_27 : decode cX6_pad 27 = .ok (.bipush (-128), 2) := by decide +kernel
theorem dX6_pad_29 : decode cX6_pad 29 = .ok (.bastore, 1) := by decide +kernel
theorem dX6_pad_30 : decode cX6_pad 30 = .ok (.iload_n 3, 1) := by decide +kernel
theorem dX6_pad_31 : decode cX6_pad 31 = .ok (.bipush 56, 2) := by decide +kernel
theorem dX6_pad_33 : decode cX6_pad 33 = .ok (.if_icmp .ge 7, 3) := by decide +kernel
theorem dX6_pad_36 : decode cX6_pad 36 = .ok (.iconst 1, 1) := by decide +kernel
theorem dX6_pad_37 : decode cX6_pad 37 = .ok (.goto 4, 3) := by decide +kernel
theorem dX6_pad_40 : decode cX6_pad 40 = .ok (.iconst 0, 1) := by decide +kernel
theorem dX6_pad_41 : decode cX6_pad 41 = .ok (.ireturn, 1) := by decide +kernel
abbrev mX6_shaBlock : ks_M := (RX6, cX6_shaBlock, 15, none, "shaBlock")
theorem dX6_shaBlock_0 : decode cX6_shaBlock 0 = .ok (.iconst 0, 1) := by decide +kernel
theorem dX6_shaBlock_1 : decode cX6_shaBlock 1 = .ok (.istore_n 3, 1) := by decide +kernel
theorem dX6_shaBlock_2 : decode cX6_shaBlock 2 = .ok (.iload_n 3, 1) := by decide +kernel
theorem dX6_shaBlock_3 : decode cX6_shaBlock 3 = .ok (.bipush 16, 2) := by decide +kernel
theorem dX6_shaBlock_5 : decode cX6_shaBlock 5 = .ok (.if_icmp .ge 68, 3) := by decide +kernel
theorem dX6_shaBlock_8 : decode cX6_shaBlock 8 = .ok (.iload_n 2, 1) := by decide +kernel
theorem dX6_shaBlock_9 : decode cX6_shaBlock 9 = .ok (.iconst 4, 1) := by decide +kernel
theorem dX6_shaBlock_10 : decode cX6_shaBlock 10 = .ok (.iload_n 3, 1) := by decide +kernel
theorem dX6_shaBlock_11 : decode cX6_shaBlock 11 = .ok (.imul, 1) := by decide +kernel
theorem dX6_shaBlock_12 : decode cX6_shaBlock 12 = .ok (.iadd, 1) := by decide +kernel
theorem dX6_shaBlock_13 : decode cX6_shaBlock 13 = .ok (.istore 4, 2) := by decide +kernel
theorem dX6_shaBlock_15 : decode cX6_shaBlock 15 = .ok (.aload_n 0, 1) := by decide +kernel
theorem dX6_shaBlock_16 : decode cX6_shaBlock 16 = .ok (.getfield 15, 3) := by decide +kernel
theorem dX6_shaBlock_19 : decode cX6_shaBlock 19 = .ok (.iload_n 3, 1) := by decide +kernel
theorem dX6_shaBlock_20 : decode cX6_shaBlock 20 = .ok (.aload_n 1, 1) := by decide +kernel
theorem dX6_shaBlock_21 : decode cX6_shaBlock 21 = .ok (.iload 4, 2) := by decide +kernel
theorem dX6_shaBlock_23 : decode cX6_shaBlock 23 = .ok (.baload, 1) := by decide +kernel
theorem dX6_shaBlock_24 : decode cX6_shaBlock 24 = .ok (.bipush 24, 2) := by decide +kernel
theorem dX6_shaBlock_26 : decode cX6_shaBlock 26 = .ok (.ishl, 1) := by decide +kernel
theorem dX6_shaBlock_27 : decode cX6_shaBlock 27 = .ok (.aload_n 1, 1) := by decide +kernel
theorem dX6_shaBlock_28 : decode cX6_shaBlock 28 = .ok (.iload 4, 2) := by decide +kernel
theorem dX6_shaBlock_30 : decode cX6_shaBlock 30 = .ok (.iconst 1, 1) := by decide +kernel
theorem dX6_shaBlock_31 : decode cX6_shaBlock 31 = .ok (.iadd, 1) := by decide +kernel
theorem dX6_shaBlock_32 : decode cX6_shaBlock 32 = .ok (.baload, 1) := by decide +kernel
theorem dX6_shaBlock_33 : decode cX6_shaBlock 33 = .ok (.sipush 255, 3) := by decide +kernel
theorem dX6_shaBlock_36 : decode cX6_shaBlock 36 = .ok (.iand, 1) := by decide +kernel
theorem dX6_shaBlock_37 : decode cX6_shaBlock 37 = .ok (.bipush 16, 2) := by decide +kernel
theorem dX6_shaBlock_39 : decode cX6_shaBlock 39 = .ok (.ishl, 1) := by decide +kernel
theorem dX6_shaBlock_40 : decode cX6_shaBlock 40 = .ok (.ior, 1) := by decide +kernel
theorem dX6_shaBlock_41 : decode cX6_shaBlock 41 = .ok (.aload_n 1, 1) := by decide +kernel
theorem dX6_shaBlock_42 : decode cX6_shaBlock 42 = .ok (.iload 4, 2) := by decide +kernel
theorem dX6_shaBlock_44 : decode cX6_shaBlock 44 = .ok (.iconst 2, 1) := by decide +kernel
theorem dX6_shaBlock_45 : decode cX6_shaBlock 45 = .ok (.iadd, 1) := by decide +kernel
theorem dX6_shaBlock_46 : decode cX6_shaBlock 46 = .ok (.baload, 1) := by decide +kernel
theorem dX6_shaBlock_47 : decode cX6_shaBlock 47 = .ok (.sipush 255, 3) := by decide +kernel
theorem dX6_shaBlock_50 : decode cX6_shaBlock 50 = .ok (.iand, 1) := by decide +kernel
theorem dX6_shaBlock_51 : decode cX6_shaBlock 51 = .ok (.bipush 8, 2) := by decide +kernel
theorem dX6_shaBlock_53 : decode cX6_shaBlock 53 = .ok (.ishl, 1) := by decide +kernel
theorem dX6_shaBlock_54 : decode cX6_shaBlock 54 = .ok (.ior, 1) := by decide +kernel
theorem dX6_shaBlock_55 : decode cX6_shaBlock 55 = .ok (.aload_n 1, 1) := by decide +kernel
theorem dX6_shaBlock_56 : decode cX6_shaBlock 56 = .ok (.iload 4, 2) := by decide +kernel
theorem dX6_shaBlock_58 : decode cX6_shaBlock 58 = .ok (.iconst 3, 1) := by decide +kernel
theorem dX6_shaBlock_59 : decode cX6_shaBlock 59 = .ok (.iadd, 1) := by decide +kernel
theorem dX6_shaBlock_60 : decode cX6_shaBlock 60 = .ok (.baload, 1) := by decide +kernel
theorem dX6_shaBlock_61 : decode cX6_shaBlock 61 = .ok (.sipush 255, 3) := by decide +kernel
theorem dX6_shaBlock_64 : decode cX6_shaBlock 64 = .ok (.iand, 1) := by decide +kernel
theorem dX6_shaBlock_65 : decode cX6_shaBlock 65 = .ok (.ior, 1) := by decide +kernel
theorem dX6_shaBlock_66 : decode cX6_shaBlock 66 = .ok (.iastore, 1) := by decide +kernel
theorem dX6_shaBlock_67 : decode cX6_shaBlock 67 = .ok (.iinc 3 1, 3) := by decide +kernel
theorem dX6_shaBlock_70 : decode cX6_shaBlock 70 = .ok (.goto (-68), 3) := by decide +kernel
theorem dX6_shaBlock_73 : decode cX6_shaBlock 73 = .ok (.bipush 16, 2) := by decide +kernel
theorem dX6_shaBlock_75 : decode cX6_shaBlock 75 = .ok (.istore_n 3, 1) := by decide +kernel
theorem dX6_shaBlock_76 : decode cX6_shaBlock 76 = .ok (.iload_n 3, 1) := by decide +kernel
theorem dX6_shaBlock_77 : decode cX6_shaBlock 77 = .ok (.bipush 64, 2) := by decide +kernel
theorem dX6_shaBlock_79 : decode cX6_shaBlock 79 = .ok (.if_icmp .ge 122, 3) := by decide +kernel
theorem dX6_shaBlock_82 : decode cX6_shaBlock 82 = .ok (.aload_n 0, 1) := by decide +kernel
theorem dX6_shaBlock_83 : decode cX6_shaBlock 83 = .ok (.getfield 15, 3) := by decide +kernel
theorem dX6_shaBlock_86 : decode cX6_shaBlock 86 = .ok (.iload_n 3, 1) := by decide +kernel
theorem dX6_shaBlock_87 : decode cX6_shaBlock 87 = .ok (.bipush 15, 2) := by decide +kernel
theorem dX6_shaBlock_89 : decode cX6_shaBlock 89 = .ok (.isub, 1) := by decide +kernel
theorem dX6_shaBlock_90 : decode cX6_shaBlock 90 = .ok (.iaload, 1) := by decide +kernel
theorem dX6_shaBlock_91 : decode cX6_shaBlock 91 = .ok (.istore 4, 2) := by decide +kernel
theorem dX6_shaBlock_93 : decode cX6_shaBlock 93 = .ok (.aload_n 0, 1) := by decide +kernel
theorem dX6_shaBlock_94 : decode cX6_shaBlock 94 = .ok (.getfield 15, 3) := by decide +kernel
theorem dX6_shaBlock_97 : decode cX6_shaBlock 97 = .ok (.iload_n 3, 1) := by decide +kernel
theorem dX6_shaBlock_98 : decode cX6_shaBlock 98 = .ok (.iconst 2, 1) := by decide +kernel
theorem dX6_shaBlock_99 : decode cX6_shaBlock 99 = .ok (.isub, 1) := by decide +kernel
theorem dX6_shaBlock_100 : decode cX6_shaBlock 100 = .ok (.iaload, 1) := by decide +kernel
theorem dX6_shaBlock_101 : decode cX6_shaBlock 101 = .ok (.istore 5, 2) := by decide +kernel
theorem dX6_shaBlock_103 : decode cX6_shaBlock 103 = .ok (.iload 4, 2) := by decide +kernel
theorem dX6_shaBlock_105 : decode cX6_shaBlock 105 = .ok (.bipush 7, 2) := by decide +kernel
theorem dX6_shaBlock_107 : decode cX6_shaBlock 107 = .ok (.iushr, 1) := by decide +kernel
theorem dX6_shaBlock_108 : decode cX6_shaBlock 108 = .ok (.iload 4, 2) := by decide +kernel
theorem dX6_shaBlock_110 : decode cX6_shaBlock 110 = .ok (.bipush 25, 2) := by decide +kernel
theorem dX6_shaBlock_112 : decode cX6_shaBlock 112 = .ok (.ishl, 1) := by decide +kernel
theorem dX6_shaBlock_113 : decode cX6_shaBlock 113 = .ok (.ior, 1) := by decide +kernel
theorem dX6_shaBlock_114 : decode cX6_shaBlock 114 = .ok (.iload 4, 2) := by decide +kernel
theorem dX6_shaBlock_116 : decode cX6_shaBlock 116 = .ok (.bipush 18, 2) := by decide +kernel
theorem dX6_shaBlock_118 : decode cX6_shaBlock 118 = .ok (.iushr, 1) := by decide +kernel
theorem dX6_shaBlock_119 : decode cX6_shaBlock 119 = .ok (.iload 4, 2) := by decide +kernel
theorem dX6_shaBlock_121 : decode cX6_shaBlock 121 = .ok (.bipush 14, 2) := by decide +kernel
theorem dX6_shaBlock_123 : decode cX6_shaBlock 123 = .ok (.ishl, 1) := by decide +kernel
theorem dX6_shaBlock_124 : decode cX6_shaBlock 124 = .ok (.ior, 1) := by decide +kernel
theorem dX6_shaBlock_125 : decode cX6_shaBlock 125 = .ok (.ixor, 1) := by decide +kernel
theorem dX6_shaBlock_126 : decode cX6_shaBlock 126 = .ok (.iload 4, 2) := by decide +kernel
theorem dX6_shaBlock_128 : decode cX6_shaBlock 128 = .ok (.iconst 3, 1) := by decide +kernel
theorem dX6_shaBlock_129 : decode cX6_shaBlock 129 = .ok (.iushr, 1) := by decide +kernel
theorem dX6_shaBlock_130 : decode cX6_shaBlock 130 = .ok (.ixor, 1) := by decide +kernel
theorem dX6_shaBlock_131 : decode cX6_shaBlock 131 = .ok (.istore 6, 2) := by decide +kernel
theorem dX6_shaBlock_133 : decode cX6_shaBlock 133 = .ok (.iload 5, 2) := by decide +kernel
theorem dX6_shaBlock_135 : decode cX6_shaBlock 135 = .ok (.bipush 17, 2) := by decide +kernel
theorem dX6_shaBlock_137 : decode cX6_shaBlock 137 = .ok (.iushr, 1) := by decide +kernel
theorem dX6_shaBlock_138 : decode cX6_shaBlock 138 = .ok (.iload 5, 2) := by decide +kernel
theorem dX6_shaBlock_140 : decode cX6_shaBlock 140 = .ok (.bipush 15, 2) := by decide +kernel
theorem dX6_shaBlock_142 : decode cX6_shaBlock 142 = .ok (.ishl, 1) := by decide +kernel
theorem dX6_shaBlock_143 : decode cX6_shaBlock 143 = .ok (.ior, 1) := by decide +kernel
theorem dX6_shaBlock_144 : decode cX6_shaBlock 144 = .ok (.iload 5, 2) := by decide +kernel
theorem dX6_shaBlock_146 : decode cX6_shaBlock 146 = .ok (.bipush 19, 2) := by decide +kernel
theorem dX6_shaBlock_148 : decode cX6_shaBlock 148 = .ok (.iushr, 1) := by decide +kernel
theorem dX6_shaBlock_149 : decode cX6_shaBlock 149 = .ok (.iload 5, 2) := by decide +kernel
theorem dX6_shaBlock_151 : decode cX6_shaBlock 151 = .ok (.bipush 13, 2) := by decide +kernel
theorem dX6_shaBlock_153 : decode cX6_shaBlock 153 = .ok (.ishl, 1) := by decide +kernel
theorem dX6_shaBlock_154 : decode cX6_shaBlock 154 = .ok (.ior, 1) := by decide +kernel
theorem dX6_shaBlock_155 : decode cX6_shaBlock 155 = .ok (.ixor, 1) := by decide +kernel
theorem dX6_shaBlock_156 : decode cX6_shaBlock 156 = .ok (.iload 5, 2) := by decide +kernel
theorem dX6_shaBlock_158 : decode cX6_shaBlock 158 = .ok (.bipush 10, 2) := by decide +kernel
theorem dX6_shaBlock_160 : decode cX6_shaBlock 160 = .ok (.iushr, 1) := by decide +kernel
theorem dX6_shaBlock_161 : decode cX6_shaBlock 161 = .ok (.ixor, 1) := by decide +kernel
theorem dX6_shaBlock_162 : decode cX6_shaBlock 162 = .ok (.istore 7, 2) := by decide +kernel
theorem dX6_shaBlock_164 : decode cX6_shaBlock 164 = .ok (.aload_n 0, 1) := by decide +kernel
theorem dX6_shaBlock_165 : decode cX6_shaBlock 165 = .ok (.getfield 15, 3) := by decide +kernel
theorem dX6_shaBlock_168 : decode cX6_shaBlock 168 = .ok (.iload_n 3, 1) := by decide +kernel
theorem dX6_shaBlock_169 : decode cX6_shaBlock 169 = .ok (.aload_n 0, 1) := by decide +kernel
theorem dX6_shaBlock_170 : decode cX6_shaBlock 170 = .ok (.getfield 15, 3) := by decide +kernel
theorem dX6_shaBlock_173 : decode cX6_shaBlock 173 = .ok (.iload_n 3, 1) := by decide +kernel
theorem dX6_shaBlock_174 : decode cX6_shaBlock 174 = .ok (.bipush 16, 2) := by decide +kernel
theorem dX6_shaBlock_176 : decode cX6_shaBlock 176 = .ok (.isub, 1) := by decide +kernel
theorem dX6_shaBlock_177 : decode cX6_shaBlock 177 = .ok (.iaload, 1) := by decide +kernel
theorem dX6_shaBlock_178 : decode cX6_shaBlock 178 = .ok (.iload 6, 2) := by decide +kernel
theorem dX6_shaBlock_180 : decode cX6_shaBlock 180 = .ok (.iadd, 1) := by decide +kernel
theorem dX6_shaBlock_181 : decode cX6_shaBlock 181 = .ok (.aload_n 0, 1) := by decide +kernel
theorem dX6_shaBlock_182 : decode cX6_shaBlock 182 = .ok (.getfield 15, 3) := by decide +kernel
theorem dX6_shaBlock_185 : decode cX6_shaBlock 185 = .ok (.iload_n 3, 1) := by decide +kernel
theorem dX6_shaBlock_186 : decode cX6_shaBlock 186 = .ok (.bipush 7, 2) := by decide +kernel
theorem dX6_shaBlock_188 : decode cX6_shaBlock 188 = .ok (.isub, 1) := by decide +kernel
theorem dX6_shaBlock_189 : decode cX6_shaBlock 189 = .ok (.iaload, 1) := by decide +kernel
theorem dX6_shaBlock_190 : decode cX6_shaBlock 190 = .ok (.iadd, 1) := by decide +kernel
theorem dX6_shaBlock_191 : decode cX6_shaBlock 191 = .ok (.iload 7, 2) := by decide +kernel
theorem dX6_shaBlock_193 : decode cX6_shaBlock 193 = .ok (.iadd, 1) := by decide +kernel
theorem dX6_shaBlock_194 : decode cX6_shaBlock 194 = .ok (.iastore, 1) := by decide +kernel
theorem dX6_shaBlock_195 : decode cX6_shaBlock 195 = .ok (.iinc 3 1, 3) := by decide +kernel
theorem dX6_shaBlock_198 : decode cX6_shaBlock 198 = .ok (.goto (-122), 3) := by decide +kernel
theorem dX6_shaBlock_201 : decode cX6_shaBlock 201 = .ok (.aload_n 0, 1) := by decide +kernel
theorem dX6_shaBlock_202 : decode cX6_shaBlock 202 = .ok (.getfield 9, 3) := by decide +kernel
theorem dX6_shaBlock_205 : decode cX6_shaBlock 205 = .ok (.iconst 0, 1) := by decide +kernel
theorem dX6_shaBlock_206 : decode cX6_shaBlock 206 = .ok (.iaload, 1) := by decide +kernel
theorem dX6_shaBlock_207 : decode cX6_shaBlock 207 = .ok (.istore_n 3, 1) := by decide +kernel
theorem dX6_shaBlock_208 : decode cX6_shaBlock 208 = .ok (.aload_n 0, 1) := by decide +kernel
theorem dX6_shaBlock_209 : decode cX6_shaBlock 209 = .ok (.getfield 9, 3) := by decide +kernel
theorem dX6_shaBlock_212 : decode cX6_shaBlock 212 = .ok (.iconst 1, 1) := by decide +kernel
theorem dX6_shaBlock_213 : decode cX6_shaBlock 213 = .ok (.iaload, 1) := by decide +kernel
theorem dX6_shaBlock_214 : decode cX6_shaBlock 214 = .ok (.istore 4, 2) := by decide +kernel
theorem dX6_shaBlock_216 : decode cX6_shaBlock 216 = .ok (.aload_n 0, 1) := by decide +kernel
theorem dX6_shaBlock_217 : decode cX6_shaBlock 217 = .ok (.getfield 9, 3) := by decide +kernel
theorem dX6_shaBlock_220 : decode cX6_shaBlock 220 = .ok (.iconst 2, 1) := by decide +kernel
theorem dX6_shaBlock_221 : decode cX6_shaBlock 221 = .ok (.iaload, 1) := by decide +kernel
theorem dX6_shaBlock_222 : decode cX6_shaBlock 222 = .ok (.istore 5, 2) := by decide +kernel
theorem dX6_shaBlock_224 : decode cX6_shaBlock 224 = .ok (.aload_n 0, 1) := by decide +kernel
theorem dX6_shaBlock_225 : decode cX6_shaBlock 225 = .ok (.getfield 9, 3) := by decide +kernel
theorem dX6_shaBlock_228 : decode cX6_shaBlock 228 = .ok (.iconst 3, 1) := by decide +kernel
theorem dX6_shaBlock_229 : decode cX6_shaBlock 229 = .ok (.iaload, 1) := by decide +kernel
theorem dX6_shaBlock_230 : decode cX6_shaBlock 230 = .ok (.istore 6, 2) := by decide +kernel
theorem dX6_shaBlock_232 : decode cX6_shaBlock 232 = .ok (.aload_n 0, 1) := by decide +kernel
theorem dX6_shaBlock_233 : decode cX6_shaBlock 233 = .ok (.getfield 9, 3) := by decide +kernel
theorem dX6_shaBlock_236 : decode cX6_shaBlock 236 = .ok (.iconst 4, 1) := by decide +kernel
theorem dX6_shaBlock_237 : decode cX6_shaBlock 237 = .ok (.iaload, 1) := by decide +kernel
theorem dX6_shaBlock_238 : decode cX6_shaBlock 238 = .ok (.istore 7, 2) := by decide +kernel
theorem dX6_shaBlock_240 : decode cX6_shaBlock 240 = .ok (.aload_n 0, 1) := by decide +kernel
theorem dX6_shaBlock_241 : decode cX6_shaBlock 241 = .ok (.getfield 9, 3) := by decide +kernel
theorem dX6_shaBlock_244 : decode cX6_shaBlock 244 = .ok (.iconst 5, 1) := by decide +kernel
theorem dX6_shaBlock_245 : decode cX6_shaBlock 245 = .ok (.iaload, 1) := by decide +kernel
theorem dX6_shaBlock_246 : decode cX6_shaBlock 246 = .ok (.istore 8, 2) := by decide +kernel
theorem dX6_shaBlock_248 : decode cX6_shaBlock 248 = .ok (.aload_n 0, 1) := by decide +kernel
theorem dX6_shaBlock_249 : decode cX6_shaBlock 249 = .ok (.getfield 9, 3) := by decide +kernel
theorem dX6_shaBlock_252 : decode cX6_shaBlock 252 = .ok (.bipush 6, 2) := by decide +kernel
theorem dX6_shaBlock_254 : decode cX6_shaBlock 254 = .ok (.iaload, 1) := by decide +kernel
theorem dX6_shaBlock_255 : decode cX6_shaBlock 255 = .ok (.istore 9, 2) := by decide +kernel
theorem dX6_shaBlock_257 : decode cX6_shaBlock 257 = .ok (.aload_n 0, 1) := by decide +kernel
theorem dX6_shaBlock_258 : decode cX6_shaBlock 258 = .ok (.getfield 9, 3) := by decide +kernel
theorem dX6_shaBlock_261 : decode cX6_shaBlock 261 = .ok (.bipush 7, 2) := by decide +kernel
theorem dX6_shaBlock_263 : decode cX6_shaBlock 263 = .ok (.iaload, 1) := by decide +kernel
theorem dX6_shaBlock_264 : decode cX6_shaBlock 264 = .ok (.istore 10, 2) := by decide +kernel
theorem dX6_shaBlock_266 : decode cX6_shaBlock 266 = .ok (.iconst 0, 1) := by decide +kernel
theorem dX6_shaBlock_267 : decode cX6_shaBlock 267 = .ok (.istore 11, 2) := by decide +kernel
theorem dX6_shaBlock_269 : decode cX6_shaBlock 269 = .ok (.iload 11, 2) := by decide +kernel
theorem dX6_shaBlock_271 : decode cX6_shaBlock 271 = .ok (.bipush 64, 2) := by decide +kernel
theorem dX6_shaBlock_273 : decode cX6_shaBlock 273 = .ok (.if_icmp .ge 168, 3) := by decide +kernel
theorem dX6_shaBlock_276 : decode cX6_shaBlock 276 = .ok (.iload 7, 2) := by decide +kernel
theorem dX6_shaBlock_278 : decode cX6_shaBlock 278 = .ok (.bipush 6, 2) := by decide +kernel
theorem dX6_shaBlock_280 : decode cX6_shaBlock 280 = .ok (.iushr, 1) := by decide +kernel
theorem dX6_shaBlock_281 : decode cX6_shaBlock 281 = .ok (.iload 7, 2) := by decide +kernel
theorem dX6_shaBlock_283 : decode cX6_shaBlock 283 = .ok (.bipush 26, 2) := by decide +kernel
theorem dX6_shaBlock_285 : decode cX6_shaBlock 285 = .ok (.ishl, 1) := by decide +kernel
theorem dX6_shaBlock_286 : decode cX6_shaBlock 286 = .ok (.ior, 1) := by decide +kernel
theorem dX6_shaBlock_287 : decode cX6_shaBlock 287 = .ok (.iload 7, 2) := by decide +kernel
theorem dX6_shaBlock_289 : decode cX6_shaBlock 289 = .ok (.bipush 11, 2) := by decide +kernel
theorem dX6_shaBlock_291 : decode cX6_shaBlock 291 = .ok (.iushr, 1) := by decide +kernel
theorem dX6_shaBlock_292 : decode cX6_shaBlock 292 = .ok (.iload 7, 2) := by decide +kernel
theorem dX6_shaBlock_294 : decode cX6_shaBlock 294 = .ok (.bipush 21, 2) := by decide +kernel
theorem dX6_shaBlock_296 : decode cX6_shaBlock 296 = .ok (.ishl, 1) := by decide +kernel
theorem dX6_shaBlock_297 : decode cX6_shaBlock 297 = .ok (.ior, 1) := by decide +kernel
theorem dX6_shaBlock_298 : decode cX6_shaBlock 298 = .ok (.ixor, 1) := by decide +kernel
theorem dX6_shaBlock_299 : decode cX6_shaBlock 299 = .ok (.iload 7, 2) := by decide +kernel
theorem dX6_shaBlock_301 : decode cX6_shaBlock 301 = .ok (.bipush 25, 2) := by decide +kernel
theorem dX6_shaBlock_303 : decode cX6_shaBlock 303 = .ok (.iushr, 1) := by decide +kernel
theorem dX6_shaBlock_304 : decode cX6_shaBlock 304 = .ok (.iload 7, 2) := by decide +kernel
theorem dX6_shaBlock_306 : decode cX6_shaBlock 306 = .ok (.bipush 7, 2) := by decide +kernel
theorem dX6_shaBlock_308 : decode cX6_shaBlock 308 = .ok (.ishl, 1) := by decide +kernel
theorem dX6_shaBlock_309 : decode cX6_shaBlock 309 = .ok (.ior, 1) := by decide +kernel
theorem dX6_shaBlock_310 : decode cX6_shaBlock 310 = .ok (.ixor, 1) := by decide +kernel
theorem dX6_shaBlock_311 : decode cX6_shaBlock 311 = .ok (.istore 12, 2) := by decide +kernel
theorem dX6_shaBlock_313 : decode cX6_shaBlock 313 = .ok (.iload 10, 2) := by decide +kernel
theorem dX6_shaBlock_315 : decode cX6_shaBlock 315 = .ok (.iload 12, 2) := by decide +kernel
theorem dX6_shaBlock_317 : decode cX6_shaBlock 317 = .ok (.iadd, 1) := by decide +kernel
theorem dX6_shaBlock_318 : decode cX6_shaBlock 318 = .ok (.iload 7, 2) := by decide +kernel
theorem dX6_shaBlock_320 : decode cX6_shaBlock 320 = .ok (.iload 8, 2) := by decide +kernel
theorem dX6_shaBlock_322 : decode cX6_shaBlock 322 = .ok (.iand, 1) := by decide +kernel
theorem dX6_shaBlock_323 : decode cX6_shaBlock 323 = .ok (.iload 7, 2) := by decide +kernel
theorem dX6_shaBlock_325 : decode cX6_shaBlock 325 = .ok (.iconst (-1), 1) := by decide +kernel
theorem dX6_shaBlock_326 : decode cX6_shaBlock 326 = .ok (.ixor, 1) := by decide +kernel
theorem dX6_shaBlock_327 : decode cX6_shaBlock 327 = .ok (.iload 9, 2) := by decide +kernel
theorem dX6_shaBlock_329 : decode cX6_shaBlock 329 = .ok (.iand, 1) := by decide +kernel
theorem dX6_shaBlock_330 : decode cX6_shaBlock 330 = .ok (.ixor, 1) := by decide +kernel
theorem dX6_shaBlock_331 : decode cX6_shaBlock 331 = .ok (.iadd, 1) := by decide +kernel
theorem dX6_shaBlock_332 : decode cX6_shaBlock 332 = .ok (.getstatic 75, 3) := by decide +kernel
theorem dX6_shaBlock_335 : decode cX6_shaBlock 335 = .ok (.iload 11, 2) := by decide +kernel
theorem dX6_shaBlock_337 : decode cX6_shaBlock 337 = .ok (.iaload, 1) := by decide +kernel
theorem dX6_shaBlock_338 : decode cX6_shaBlock 338 = .ok (.iadd, 1) := by decide +kernel
theorem dX6_shaBlock_339 : decode cX6_shaBlock 339 = .ok (.aload_n 0, 1) := by decide +kernel
theorem dX6_shaBlock_340 : decode cX6_shaBlock 340 = .ok (.getfield 15, 3) := by decide +kernel
theorem dX6_shaBlock_343 : decode cX6_shaBlock 343 = .ok (.iload 11, 2) := by decide +kernel
theorem dX6_shaBlock_345 : decode cX6_shaBlock 345 = .ok (.iaload, 1) := by decide +kernel
theorem dX6_shaBlock_346 : decode cX6_shaBlock 346 = .ok (.iadd, 1) := by decide +kernel
theorem dX6_shaBlock_347 : decode cX6_shaBlock 347 = .ok (.istore 13, 2) := by decide +kernel
theorem dX6_shaBlock_349 : decode cX6_shaBlock 349 = .ok (.iload_n 3, 1) := by decide +kernel
theorem dX6_shaBlock_350 : decode cX6_shaBlock 350 = .ok (.iconst 2, 1) := by decide +kernel
theorem dX6_shaBlock_351 : decode cX6_shaBlock 351 = .ok (.iushr, 1) := by decide +kernel
theorem dX6_shaBlock_352 : decode cX6_shaBlock 352 = .ok (.iload_n 3, 1) := by decide +kernel
theorem dX6_shaBlock_353 : decode cX6_shaBlock 353 = .ok (.bipush 30, 2) := by decide +kernel
theorem dX6_shaBlock_355 : decode cX6_shaBlock 355 = .ok (.ishl, 1) := by decide +kernel
theorem dX6_shaBlock_356 : decode cX6_shaBlock 356 = .ok (.ior, 1) := by decide +kernel
theorem dX6_shaBlock_357 : decode cX6_shaBlock 357 = .ok (.iload_n 3, 1) := by decide +kernel
theorem dX6_shaBlock_358 : decode cX6_shaBlock 358 = .ok (.bipush 13, 2) := by decide +kernel
theorem dX6_shaBlock_360 : decode cX6_shaBlock 360 = .ok (.iushr, 1) := by decide +kernel
theorem dX6_shaBlock_361 : decode cX6_shaBlock 361 = .ok (.iload_n 3, 1) := by decide +kernel
theorem dX6_shaBlock_362 : decode cX6_shaBlock 362 = .ok (.bipush 19, 2) := by decide +kernel
theorem dX6_shaBlock_364 : decode cX6_shaBlock 364 = .ok (.ishl, 1) := by decide +kernel
theorem dX6_shaBlock_365 : decode cX6_shaBlock 365 = .ok (.ior, 1) := by decide +kernel
theorem dX6_shaBlock_366 : decode cX6_shaBlock 366 = .ok (.ixor, 1) := by decide +kernel
theorem dX6_shaBlock_367 : decode cX6_shaBlock 367 = .ok (.iload_n 3, 1) := by decide +kernel
theorem dX6_shaBlock_368 : decode cX6_shaBlock 368 = .ok (.bipush 22, 2) := by decide +kernel
theorem dX6_shaBlock_370 : decode cX6_shaBlock 370 = .ok (.iushr, 1) := by decide +kernel
theorem dX6_shaBlock_371 : decode cX6_shaBlock 371 = .ok (.iload_n 3, 1) := by decide +kernel
theorem dX6_shaBlock_372 : decode cX6_shaBlock 372 = .ok (.bipush 10, 2) := by decide +kernel
theorem dX6_shaBlock_374 : decode cX6_shaBlock 374 = .ok (.ishl, 1) := by decide +kernel
theorem dX6_shaBlock_375 : decode cX6_shaBlock 375 = .ok (.ior, 1) := by decide +kernel
theorem dX6_shaBlock_376 : decode cX6_shaBlock 376 = .ok (.ixor, 1) := by decide +kernel
theorem dX6_shaBlock_377 : decode cX6_shaBlock 377 = .ok (.istore 12, 2) := by decide +kernel
theorem dX6_shaBlock_379 : decode cX6_shaBlock 379 = .ok (.iload 12, 2) := by decide +kernel
theorem dX6_shaBlock_381 : decode cX6_shaBlock 381 = .ok (.iload_n 3, 1) := by decide +kernel
theorem dX6_shaBlock_382 : decode cX6_shaBlock 382 = .ok (.iload 4, 2) := by decide +kernel
theorem dX6_shaBlock_384 : decode cX6_shaBlock 384 = .ok (.iand, 1) := by decide +kernel
theorem dX6_shaBlock_385 : decode cX6_shaBlock 385 = .ok (.iload_n 3, 1) := by decide +kernel
theorem dX6_shaBlock_386 : decode cX6_shaBlock 386 = .ok (.iload 5, 2) := by decide +kernel
theorem dX6_shaBlock_388 : decode cX6_shaBlock 388 = .ok (.iand, 1) := by decide +kernel
theorem dX6_shaBlock_389 : decode cX6_shaBlock 389 = .ok (.ixor, 1) := by decide +kernel
theorem dX6_shaBlock_390 : decode cX6_shaBlock 390 = .ok (.iload 4, 2) := by decide +kernel
theorem dX6_shaBlock_392 : decode cX6_shaBlock 392 = .ok (.iload 5, 2) := by decide +kernel
theorem dX6_shaBlock_394 : decode cX6_shaBlock 394 = .ok (.iand, 1) := by decide +kernel
theorem dX6_shaBlock_395 : decode cX6_shaBlock 395 = .ok (.ixor, 1) := by decide +kernel
theorem dX6_shaBlock_396 : decode cX6_shaBlock 396 = .ok (.iadd, 1) := by decide +kernel
theorem dX6_shaBlock_397 : decode cX6_shaBlock 397 = .ok (.istore 14, 2) := by decide +kernel
theorem dX6_shaBlock_399 : decode cX6_shaBlock 399 = .ok (.iload 9, 2) := by decide +kernel
theorem dX6_shaBlock_401 : decode cX6_shaBlock 401 = .ok (.istore 10, 2) := by decide +kernel
theorem dX6_shaBlock_403 : decode cX6_shaBlock 403 = .ok (.iload 8, 2) := by decide +kernel
theorem dX6_shaBlock_405 : decode cX6_shaBlock 405 = .ok (.istore 9, 2) := by decide +kernel
theorem dX6_shaBlock_407 : decode cX6_shaBlock 407 = .ok (.iload 7, 2) := by decide +kernel
theorem dX6_shaBlock_409 : decode cX6_shaBlock 409 = .ok (.istore 8, 2) := by decide +kernel
theorem dX6_shaBlock_411 : decode cX6_shaBlock 411 = .ok (.iload 6, 2) := by decide +kernel
theorem dX6_shaBlock_413 : decode cX6_shaBlock 413 = .ok (.iload 13, 2) := by decide +kernel
theorem dX6_shaBlock_415 : decode cX6_shaBlock 415 = .ok (.iadd, 1) := by decide +kernel
theorem dX6_shaBlock_416 : decode cX6_shaBlock 416 = .ok (.istore 7, 2) := by decide +kernel
theorem dX6_shaBlock_418 : decode cX6_shaBlock 418 = .ok (.iload 5, 2) := by decide +kernel
theorem dX6_shaBlock_420 : decode cX6_shaBlock 420 = .ok (.istore 6, 2) := by decide +kernel
theorem dX6_shaBlock_422 : decode cX6_shaBlock 422 = .ok (.iload 4, 2) := by decide +kernel
theorem dX6_shaBlock_424 : decode cX6_shaBlock 424 = .ok (.istore 5, 2) := by decide +kernel
theorem dX6_shaBlock_426 : decode cX6_shaBlock 426 = .ok (.iload_n 3, 1) := by decide +kernel
theorem dX6_shaBlock_427 : decode cX6_shaBlock 427 = .ok (.istore 4, 2) := by decide +kernel
theorem dX6_shaBlock_429 : decode cX6_shaBlock 429 = .ok (.iload 13, 2) := by decide +kernel
theorem dX6_shaBlock_431 : decode cX6_shaBlock 431 = .ok (.iload 14, 2) := by decide +kernel
theorem dX6_shaBlock_433 : decode cX6_shaBlock 433 = .ok (.iadd, 1) := by decide +kernel
theorem dX6_shaBlock_434 : decode cX6_shaBlock 434 = .ok (.istore_n 3, 1) := by decide +kernel
theorem dX6_shaBlock_435 : decode cX6_shaBlock 435 = .ok (.iinc 11 1, 3) := by decide +kernel
theorem dX6_shaBlock_438 : decode cX6_shaBlock 438 = .ok (.goto (-169), 3) := by decide +kernel
theorem dX6_shaBlock_441 : decode cX6_shaBlock 441 = .ok (.aload_n 0, 1) := by decide +kernel
theorem dX6_shaBlock_442 : decode cX6_shaBlock 442 = .ok (.getfield 9, 3) := by decide +kernel
theorem dX6_shaBlock_445 : decode cX6_shaBlock 445 = .ok (.iconst 0, 1) := by decide +kernel
theorem dX6_shaBlock_446 : decode cX6_shaBlock 446 = .ok (.dup2, 1) := by decide +kernel
theorem dX6_shaBlock_447 : decode cX6_shaBlock 447 = .ok (.iaload, 1) := by decide +kernel
theorem dX6_shaBlock_448 : decode cX6_shaBlock 448 = .ok (.iload_n 3, 1) := by decide +kernel
theorem dX6_shaBlock_449 : decode cX6_shaBlock 449 = .ok (.iadd, 1) := by decide +kernel
theorem dX6_shaBlock_450 : decode cX6_shaBlock 450 = .ok (.iastore, 1) := by decide +kernel
theorem dX6_shaBlock_451 : decode cX6_shaBlock 451 = .ok (.aload_n 0, 1) := by decide +kernel
theorem dX6_shaBlock_452 : decode cX6_shaBlock 452 = .ok (.getfield 9, 3) := by decide +kernel
theorem dX6_shaBlock_455 : decode cX6_shaBlock 455 = .ok (.iconst 1, 1) := by decide +kernel
theorem dX6_shaBlock_456 : decode cX6_shaBlock 456 = .ok (.dup2, 1) := by decide +kernel
theorem dX6_shaBlock_457 : decode cX6_shaBlock 457 = .ok (.iaload, 1) := by decide +kernel
theorem dX6_shaBlock_458 : decode cX6_shaBlock 458 = .ok (.iload 4, 2) := by decide +kernel
theorem dX6_shaBlock_460 : decode cX6_shaBlock 460 = .ok (.iadd, 1) := by decide +kernel
theorem dX6_shaBlock_461 : decode cX6_shaBlock 461 = .ok (.iastore, 1) := by decide +kernel
theorem dX6_shaBlock_462 : decode cX6_shaBlock 462 = .ok (.aload_n 0, 1) := by decide +kernel
theorem dX6_shaBlock_463 : decode cX6_shaBlock 463 = .ok (.getfield 9, 3) := by decide +kernel
theorem dX6_shaBlock_466 : decode cX6_shaBlock 466 = .ok (.iconst 2, 1) := by decide +kernel
theorem dX6_shaBlock_467 : decode cX6_shaBlock 467 = .ok (.dup2, 1) := by decide +kernel
theorem dX6_shaBlock_468 : decode cX6_shaBlock 468 = .ok (.iaload, 1) := by decide +kernel
theorem dX6_shaBlock_469 : decode cX6_shaBlock 469 = .ok (.iload 5, 2) := by decide +kernel
theorem dX6_shaBlock_471 : decode cX6_shaBlock 471 = .ok (.iadd, 1) := by decide +kernel
theorem dX6_shaBlock_472 : decode cX6_shaBlock 472 = .ok (.iastore, 1) := by decide +kernel
theorem dX6_shaBlock_473 : decode cX6_shaBlock 473 = .ok (.aload_n 0, 1) := by decide +kernel
theorem dX6_shaBlock_474 : decode cX6_shaBlock 474 = .ok (.getfield 9, 3) := by decide +kernel
theorem dX6_shaBlock_477 : decode cX6_shaBlock 477 = .ok (.iconst 3, 1) := by decide +kernel
theorem dX6_shaBlock_478 : decode cX6_shaBlock 478 = .ok (.dup2, 1) := by decide +kernel
theorem dX6_shaBlock_479 : decode cX6_shaBlock 479 = .ok (.iaload, 1) := by decide +kernel
theorem dX6_shaBlock_480 : decode cX6_shaBlock 480 = .ok (.iload 6, 2) := by decide +kernel
theorem dX6_shaBlock_482 : decode cX6_shaBlock 482 = .ok (.iadd, 1) := by decide +kernel
theorem dX6_shaBlock_483 : decode cX6_shaBlock 483 = .ok (.iastore, 1) := by decide +kernel
theorem dX6_shaBlock_484 : decode cX6_shaBlock 484 = .ok (.aload_n 0, 1) := by decide +kernel
theorem dX6_shaBlock_485 : decode cX6_shaBlock 485 = .ok (.getfield 9, 3) := by decide +kernel
theorem dX6_shaBlock_488 : decode cX6_shaBlock 488 = .ok (.iconst 4, 1) := by decide +kernel
theorem dX6_shaBlock_489 : decode cX6_shaBlock 489 = .ok (.dup2, 1) := by decide +kernel
theorem dX6_shaBlock_490 : decode cX6_shaBlock 490 = .ok (.iaload, 1) := by decide +kernel
theorem dX6_shaBlock_491 : decode cX6_shaBlock 491 = .ok (.iload 7, 2) := by decide +kernel
theorem dX6_shaBlock_493 : decode cX6_shaBlock 493 = .ok (.iadd, 1) := by decide +kernel
theorem dX6_shaBlock_494 : decode cX6_shaBlock 494 = .ok (.iastore, 1) := by decide +kernel
theorem dX6_shaBlock_495 : decode cX6_shaBlock 495 = .ok (.aload_n 0, 1) := by decide +kernel
theorem dX6_shaBlock_496 : decode cX6_shaBlock 496 = .ok (.getfield 9, 3) := by decide +kernel
theorem dX6_shaBlock_499 : decode cX6_shaBlock 499 = .ok (.iconst 5, 1) := by decide +kernel
theorem dX6_shaBlock_500 : decode cX6_shaBlock 500 = .ok (.dup2, 1) := by decide +kernel
theorem dX6_shaBlock_501 : decode cX6_shaBlock 501 = .ok (.iaload, 1) := by decide +kernel
theorem dX6_shaBlock_502 : decode cX6_shaBlock 502 = .ok (.iload 8, 2) := by decide +kernel
theorem dX6_shaBlock_504 : decode cX6_shaBlock 504 = .ok (.iadd, 1) := by decide +kernel
theorem dX6_shaBlock_505 : decode cX6_shaBlock 505 = .ok (.iastore, 1) := by decide +kernel
theorem dX6_shaBlock_506 : decode cX6_shaBlock 506 = .ok (.aload_n 0, 1) := by decide +kernel
theorem dX6_shaBlock_507 : decode cX6_shaBlock 507 = .ok (.getfield 9, 3) := by decide +kernel
theorem dX6_shaBlock_510 : decode cX6_shaBlock 510 = .ok (.bipush 6, 2) := by decide +kernel
theorem dX6_shaBlock_512 : decode cX6_shaBlock 512 = .ok (.dup2, 1) := by decide +kernel
theorem dX6_shaBlock_513 : decode cX6_shaBlock 513 = .ok (.iaload, 1) := by decide +kernel
theorem dX6_shaBlock_514 : decode cX6_shaBlock 514 = .ok (.iload 9, 2) := by decide +kernel
theorem dX6_shaBlock_516 : decode cX6_shaBlock 516 = .ok (.iadd, 1) := by decide +kernel
theorem dX6_shaBlock_517 : decode cX6_shaBlock 517 = .ok (.iastore, 1) := by decide +kernel
theorem dX6_shaBlock_518 : decode cX6_shaBlock 518 = .ok (.aload_n 0, 1) := by decide +kernel
theorem dX6_shaBlock_519 : decode cX6_shaBlock 519 = .ok (.getfield 9, 3) := by decide +kernel
theorem dX6_shaBlock_522 : decode cX6_shaBlock 522 = .ok (.bipush 7, 2) := by decide +kernel
theorem dX6_shaBlock_524 : decode cX6_shaBlock 524 = .ok (.dup2, 1) := by decide +kernel
theorem dX6_shaBlock_525 : decode cX6_shaBlock 525 = .ok (.iaload, 1) := by decide +kernel
theorem dX6_shaBlock_526 : decode cX6_shaBlock 526 = .ok (.iload 10, 2) := by decide +kernel
theorem dX6_shaBlock_528 : decode cX6_shaBlock 528 = .ok (.iadd, 1) := by decide +kernel
theorem dX6_shaBlock_529 : decode cX6_shaBlock 529 = .ok (.iastore, 1) := by decide +kernel
theorem dX6_shaBlock_530 : decode cX6_shaBlock 530 = .ok (.return_, 1) := by decide +kernel
abbrev mX6_ripeBlock : ks_M := (RX6, cX6_ripeBlock, 4, none, "ripeBlock")
theorem dX6_ripeBlock_0 : decode cX6_ripeBlock 0 = .ok (.iconst 0, 1) := by decide +kernel
theorem dX6_ripeBlock_1 : decode cX6_ripeBlock 1 = .ok (.istore_n 3, 1) := by decide +kernel
theorem dX6_ripeBlock_2 : decode cX6_ripeBlock 2 = .ok (.iload_n 3, 1) := by decide +kernel
theorem dX6_ripeBlock_3 : decode cX6_ripeBlock 3 = .ok (.bipush 16, 2) := by decide +kernel
theorem dX6_ripeBlock_5 : decode cX6_ripeBlock 5 = .ok (.if_icmp .ge 26, 3) := by decide +kernel
theorem dX6_ripeBlock_8 : decode cX6_ripeBlock 8 = .ok (.aload_n 0, 1) := by decide +kernel
theorem dX6_ripeBlock_9 : decode cX6_ripeBlock 9 = .ok (.getfield 15, 3) := by decide +kernel
theorem dX6_ripeBlock_12 : decode cX6_ripeBlock 12 = .ok (.iload_n 3, 1) := by decide +kernel
theorem dX6_ripeBlock_13 : decode cX6_ripeBlock 13 = .ok (.aload_n 1, 1) := by decide +kernel
theorem dX6_ripeBlock_14 : decode cX6_ripeBlock 14 = .ok (.iload_n 2, 1) := by decide +kernel
theorem dX6_ripeBlock_15 : decode cX6_ripeBlock 15 = .ok (.iconst 4, 1) := by decide +kernel
theorem dX6_ripeBlock_16 : decode cX6_ripeBlock 16 = .ok (.iload_n 3, 1) := by decide +kernel
theorem dX6_ripeBlock_17 : decode cX6_ripeBlock 17 = .ok (.imul, 1) := by decide +kernel
theorem dX6_ripeBlock_18 : decode cX6_ripeBlock 18 = .ok (.iadd, 1) := by decide +kernel
theorem dX6_ripeBlock_19 : decode cX6_ripeBlock 19 = .ok (.iconst 4, 1) := by decide +kernel
theorem dX6_ripeBlock_20 : decode cX6_ripeBlock 20 = .ok (.invokestatic 78, 3) := by decide +kernel
theorem dX6_ripeBlock_23 : decode cX6_ripeBlock 23 = .ok (.l2i, 1) := by decide +kernel
theorem dX6_ripeBlock_24 : decode cX6_ripeBlock 24 = .ok (.iastore, 1) := by decide +kernel
theorem dX6_ripeBlock_25 : decode cX6_ripeBlock 25 = .ok (.iinc 3 1, 3) := by decide +kernel
theorem dX6_ripeBlock_28 : decode cX6_ripeBlock 28 = .ok (.goto (-26), 3) := by decide +kernel
theorem dX6_ripeBlock_31 : decode cX6_ripeBlock 31 = .ok (.aload_n 0, 1) := by decide +kernel
theorem dX6_ripeBlock_32 : decode cX6_ripeBlock 32 = .ok (.iconst 0, 1) := by decide +kernel
theorem dX6_ripeBlock_33 : decode cX6_ripeBlock 33 = .ok (.invokevirtual 84, 3) := by decide +kernel
theorem dX6_ripeBlock_36 : decode cX6_ripeBlock 36 = .ok (.aload_n 0, 1) := by decide +kernel
theorem dX6_ripeBlock_37 : decode cX6_ripeBlock 37 = .ok (.iconst 1, 1) := by decide +kernel
theorem dX6_ripeBlock_38 : decode cX6_ripeBlock 38 = .ok (.invokevirtual 84, 3) := by decide +kernel
theorem dX6_ripeBlock_41 : decode cX6_ripeBlock 41 = .ok (.aload_n 0, 1) := by decide +kernel
theorem dX6_ripeBlock_42 : decode cX6_ripeBlock 42 = .ok (.getfield 9, 3) := by decide +kernel
theorem dX6_ripeBlock_45 : decode cX6_ripeBlock 45 = .ok (.iconst 1, 1) := by decide +kernel
theorem dX6_ripeBlock_46 : decode cX6_ripeBlock 46 = .ok (.iaload, 1) := by decide +kernel
theorem dX6_ripeBlock_47 : decode cX6_ripeBlock 47 = .ok (.aload_n 0, 1) := by decide +kernel
theorem dX6_ripeBlock_48 : decode cX6_ripeBlock 48 = .ok (.getfield 18, 3) := by decide +kernel
theorem dX6_ripeBlock_51 : decode cX6_ripeBlock 51 = .ok (.iconst 2, 1) := by decide +kernel
theorem dX6_ripeBlock_52 : decode cX6_ripeBlock 52 = .ok (.iaload, 1) := by decide +kernel
theorem dX6_ripeBlock_53 : decode cX6_ripeBlock 53 = .ok (.iadd, 1) := by decide +kernel
theorem dX6_ripeBlock_54 : decode cX6_ripeBlock 54 = .ok (.aload_n 0, 1) := by decide +kernel
theorem dX6_ripeBlock_55 : decode cX6_ripeBlock 55 = .ok (.getfield 18, 3) := by decide +kernel
theorem dX6_ripeBlock_58 : decode cX6_ripeBlock 58 = .ok (.bipush 8, 2) := by decide +kernel
theorem dX6_ripeBlock_60 : decode cX6_ripeBlock 60 = .ok (.iaload, 1) := by decide +kernel
theorem dX6_ripeBlock_61 : decode cX6_ripeBlock 61 = .ok (.iadd, 1) := by decide +kernel
theorem dX6_ripeBlock_62 : decode cX6_ripeBlock 62 = .ok (.istore_n 3, 1) := by decide +kernel
theorem dX6_ripeBlock_63 : decode cX6_ripeBlock 63 = .ok (.aload_n 0, 1) := by decide +kernel
theorem dX6_ripeBlock_64 : decode cX6_ripeBlock 64 = .ok (.getfield 9, 3) := by decide +kernel
theorem dX6_ripeBlock_67 : decode cX6_ripeBlock 67 = .ok (.iconst 1, 1) := by decide +kernel
theorem dX6_ripeBlock_68 : decode cX6_ripeBlock 68 = .ok (.aload_n 0, 1) := by decide +kernel
theorem dX6_ripeBlock_69 : decode cX6_ripeBlock 69 = .ok (.getfield 9, 3) := by decide +kernel
theorem dX6_ripeBlock_72 : decode cX6_ripeBlock 72 = .ok (.iconst 2, 1) := by decide +kernel
theorem dX6_ripeBlock_73 : decode cX6_ripeBlock 73 = .ok (.iaload, 1) := by decide +kernel
theorem dX6_ripeBlock_74 : decode cX6_ripeBlock 74 = .ok (.aload_n 0, 1) := by decide +kernel
theorem dX6_ripeBlock_75 : decode cX6_ripeBlock 75 = .ok (.getfield 18, 3) := by decide +kernel
theorem dX6_ripeBlock_78 : decode cX6_ripeBlock 78 = .ok (.iconst 3, 1) := by decide +kernel
theorem dX6_ripeBlock_79 : decode cX6_ripeBlock 79 = .ok (.iaload, 1) := by decide +kernel
theorem dX6_ripeBlock_80 : decode cX6_ripeBlock 80 = .ok (.iadd, 1) := by decide +kernel
theorem dX6_ripeBlock_81 : decode cX6_ripeBlock 81 = .ok (.aload_n 0, 1) := by decide +kernel
theorem dX6_ripeBlock_82 : decode cX6_ripeBlock 82 = .ok (.getfield 18, 3) := by decide +kernel
theorem dX6_ripeBlock_85 : decode cX6_ripeBlock 85 = .ok (.bipush 9, 2) := by decide +kernel
theorem dX6_ripeBlock_87 : decode cX6_ripeBlock 87 = .ok (.iaload, 1) := by decide +kernel
theorem dX6_ripeBlock_88 : decode cX6_ripeBlock 88 = .ok (.iadd, 1) := by decide +kernel
theorem dX6_ripeBlock_89 : decode cX6_ripeBlock 89 = .ok (.iastore, 1) := by decide +kernel
theorem dX6_ripeBlock_90 : decode cX6_ripeBlock 90 = .ok (.aload_n 0, 1) := by decide +kernel
theorem dX6_ripeBlock_91 : decode cX6_ripeBlock 91 = .ok (.getfield 9, 3) := by decide +kernel
theorem dX6_ripeBlock_94 : decode cX6_ripeBlock 94 = .ok (.iconst 2, 1) := by decide +kernel
theorem dX6_ripeBlock_95 : decode cX6_ripeBlock 95 = .ok (.aload_n 0, 1) := by decide +kernel
theorem dX6_ripeBlock_96 : decode cX6_ripeBlock 96 = .ok (.getfield 9, 3) := by decide +kernel
theorem dX6_ripeBlock_99 : decode cX6_ripeBlock 99 = .ok (.iconst 3, 1) := by decide +kernel
theorem dX6_ripeBlock_100 : decode cX6_ripeBlock 100 = .ok (.iaload, 1) := by decide +kernel
theorem dX6_ripeBlock_101 : decode cX6_ripeBlock 101 = .ok (.aload_n 0, 1) := by decide +kernel
theorem dX6_ripeBlock_102 : decode cX6_ripeBlock 102 = .ok (.getfield 18, 3) := by decide +kernel
theorem dX6_ripeBlock_105 : decode cX6_ripeBlock 105 = .ok (.iconst 4, 1) := by decide +kernel
theorem dX6_ripeBlock_106 : decode cX6_ripeBlock 106 = .ok (.iaload, 1) := by decide +kernel
theorem dX6_ripeBlock_107 : decode cX6_ripeBlock 107 = .ok (.iadd, 1) := by decide +kernel
theorem dX6_ripeBlock_108 : decode cX6_ripeBlock 108 = .ok (.aload_n 0, 1) := by decide +kernel
theorem dX6_ripeBlock_109 : decode cX6_ripeBlock 109 = .ok (.getfield 18, 3) := by decide +kernel
theorem dX6_ripeBlock_112 : decode cX6_ripeBlock 112 = .ok (.iconst 5, 1) := by decide +kernel
theorem dX6_ripeBlock_113 : decode cX6_ripeBlock 113 = .ok (.iaload, 1) := by decide +kernel
theorem dX6_ripeBlock_114 : decode cX6_ripeBlock 114 = .ok (.iadd, 1) := by decide +kernel
theorem dX6_ripeBlock_115 : decode cX6_ripeBlock 115 = .ok (.iastore, 1) := by decide +kernel
theorem dX6_ripeBlock_116 : decode cX6_ripeBlock 116 = .ok (.aload_n 0, 1) := by decide +kernel
theorem dX6_ripeBlock_117 : decode cX6_ripeBlock 117 = .ok (.getfield 9, 3) := by decide +kernel
theorem dX6_ripeBlock_120 : decode cX6_ripeBlock 120 = .ok (.iconst 3, 1) := by decide +kernel
theorem dX6_ripeBlock_121 : decode cX6_ripeBlock 121 = .ok (.aload_n 0, 1) := by decide +kernel
theorem dX6_ripeBlock_122 : decode cX6_ripeBlock 122 = .ok (.getfield 9, 3) := by decide +kernel
theorem dX6_ripeBlock_125 : decode cX6_ripeBlock 125 = .ok (.iconst 4, 1) := by decide +kernel
theorem dX6_ripeBlock_126 : decode cX6_ripeBlock 126 = .ok (.iaload, 1) := by decide +kernel
theorem dX6_ripeBlock_127 : decode cX6_ripeBlock 127 = .ok (.aload_n 0, 1) := by decide +kernel
theorem dX6_ripeBlock_128 : decode cX6_ripeBlock 128 = .ok (.getfield 18, 3) := by decide +kernel
theorem dX6_ripeBlock_131 : decode cX6_ripeBlock 131 = .ok (.iconst 0, 1) := by decide +kernel
theorem dX6_ripeBlock_132 : decode cX6_ripeBlock 132 = .ok (.iaload, 1) := by decide +kernel
theorem dX6_ripeBlock_133 : decode cX6_ripeBlock 133 = .ok (.iadd, 1) := by decide +kernel
theorem dX6_ripeBlock_134 : decode cX6_ripeBlock 134 = .ok (.aload_n 0, 1) := by decide +kernel
theorem dX6_ripeBlock_135 : decode cX6_ripeBlock 135 = .ok (.getfield 18, 3) := by decide +kernel
theorem dX6_ripeBlock_138 : decode cX6_ripeBlock 138 = .ok (.bipush 6, 2) := by decide +kernel
theorem dX6_ripeBlock_140 : decode cX6_ripeBlock 140 = .ok (.iaload, 1) := by decide +kernel
theorem dX6_ripeBlock_141 : decode cX6_ripeBlock 141 = .ok (.iadd, 1) := by decide +kernel
theorem dX6_ripeBlock_142 : decode cX6_ripeBlock 142 = .ok (.iastore, 1) := by decide +kernel
theorem dX6_ripeBlock_143 : decode cX6_ripeBlock 143 = .ok (.aload_n 0, 1) := by decide +kernel
theorem dX6_ripeBlock_144 : decode cX6_ripeBlock 144 = .ok (.getfield 9, 3) := by decide +kernel
theorem dX6_ripeBlock_147 : decode cX6_ripeBlock 147 = .ok (.iconst 4, 1) := by decide +kernel
theorem dX6_ripeBlock_148 : decode cX6_ripeBlock 148 = .ok (.aload_n 0, 1) := by decide +kernel
theorem dX6_ripeBlock_149 : decode cX6_ripeBlock 149 = .ok (.getfield 9, 3) := by decide +kernel
theorem dX6_ripeBlock_152 : decode cX6_ripeBlock 152 = .ok (.iconst 0, 1) := by decide +kernel
theorem dX6_ripeBlock_153 : decode cX6_ripeBlock 153 = .ok (.iaload, 1) := by decide +kernel
theorem dX6_ripeBlock_154 : decode cX6_ripeBlock 154 = .ok (.aload_n 0, 1) := by decide +kernel
theorem dX6_ripeBlock_155 : decode cX6_ripeBlock 155 = .ok (.getfield 18, 3) := by decide +kernel
theorem dX6_ripeBlock_158 : decode cX6_ripeBlock 158 = .ok (.iconst 1, 1) := by decide +kernel
theorem dX6_ripeBlock_159 : decode cX6_ripeBlock 159 = .ok (.iaload, 1) := by decide +kernel
theorem dX6_ripeBlock_160 : decode cX6_ripeBlock 160 = .ok (.iadd, 1) := by decide +kernel
theorem dX6_ripeBlock_161 : decode cX6_ripeBlock 161 = .ok (.aload_n 0, 1) := by decide +kernel
theorem dX6_ripeBlock_162 : decode cX6_ripeBlock 162 = .ok (.getfield 18, 3) := by decide +kernel
theorem dX6_ripeBlock_165 : decode cX6_ripeBlock 165 = .ok (.bipush 7, 2) := by decide +kernel
theorem dX6_ripeBlock_167 : decode cX6_ripeBlock 167 = .ok (.iaload, 1) := by decide +kernel
theorem dX6_ripeBlock_168 : decode cX6_ripeBlock 168 = .ok (.iadd, 1) := by decide +kernel
theorem dX6_ripeBlock_169 : decode cX6_ripeBlock 169 = .ok (.iastore, 1) := by decide +kernel
theorem dX6_ripeBlock_170 : decode cX6_ripeBlock 170 = .ok (.aload_n 0, 1) := by decide +kernel
theorem dX6_ripeBlock_171 : decode cX6_ripeBlock 171 = .ok (.getfield 9, 3) := by decide +kernel
theorem dX6_ripeBlock_174 : decode cX6_ripeBlock 174 = .ok (.iconst 0, 1) := by decide +kernel
theorem dX6_ripeBlock_175 : decode cX6_ripeBlock 175 = .ok (.iload_n 3, 1) := by decide +kernel
theorem dX6_ripeBlock_176 : decode cX6_ripeBlock 176 = .ok (.iastore, 1) := by decide +kernel
theorem dX6_ripeBlock_177 : decode cX6_ripeBlock 177 = .ok (.return_, 1) := by decide +kernel
abbrev mX6_ripeSide : ks_M := (RX6, cX6_ripeSide, 12, none, "ripeSide")
theorem dX6_ripeSide_0 : decode cX6_ripeSide 0 = .ok (.aload_n 0, 1) := by decide +kernel
theorem dX6_ripeSide_1 : decode cX6_ripeSide 1 = .ok (.getfield 9, 3) := by decide +kernel
theorem dX6_ripeSide_4 : decode cX6_ripeSide 4 = .ok (.iconst 0, 1) := by decide +kernel
theorem dX6_ripeSide_5 : decode cX6_ripeSide 5 = .ok (.iaload, 1) := by decide +kernel
theorem dX6_ripeSide_6 : decode cX6_ripeSide 6 = .ok (.istore_n 2, 1) := by decide +kernel
theorem dX6_ripeSide_7 : decode cX6_ripeSide 7 = .ok (.aload_n 0, 1) := by decide +kernel
theorem dX6_ripeSide_8 : decode cX6_ripeSide 8 = .ok (.getfield 9, 3) := by decide +kernel
theorem dX6_ripeSide_11 : decode cX6_ripeSide 11 = .ok (.iconst 1, 1) := by decide +kernel
theorem dX6_ripeSide_12 : decode cX6_ripeSide 12 = .ok (.iaload, 1) := by decide +kernel
theorem dX6_ripeSide_13 : decode cX6_ripeSide 13 = .ok (.istore_n 3, 1) := by decide +kernel
theorem dX6_ripeSide_14 : decode cX6_ripeSide 14 = .ok (.aload_n 0, 1) := by decide +kernel
theorem dX6_ripeSide_15 : decode cX6_ripeSide 15 = .ok (.getfield 9, 3) := by decide +kernel
theorem dX6_ripeSide_18 : decode cX6_ripeSide 18 = .ok (.iconst 2, 1) := by decide +kernel
theorem dX6_ripeSide_19 : decode cX6_ripeSide 19 = .ok (.iaload, 1) := by decide +kernel
theorem dX6_ripeSide_20 : decode cX6_ripeSide 20 = .ok (.istore 4, 2) := by decide +kernel
theorem dX6_ripeSide_22 : decode cX6_ripeSide 22 = .ok (.aload_n 0, 1) := by decide +kernel
theorem dX6_ripeSide_23 : decode cX6_ripeSide 23 = .ok (.getfield 9, 3) := by decide +kernel
theorem dX6_ripeSide_26 : decode cX6_ripeSide 26 = .ok (.iconst 3, 1) := by decide +kernel
theorem dX6_ripeSide_27 : decode cX6_ripeSide 27 = .ok (.iaload, 1) := by decide +kernel
theorem dX6_ripeSide_28 : decode cX6_ripeSide 28 = .ok (.istore 5, 2) := by decide +kernel
theorem dX6_ripeSide_30 : decode cX6_ripeSide 30 = .ok (.aload_n 0, 1) := by decide +kernel
theorem dX6_ripeSide_31 : decode cX6_ripeSide 31 = .ok (.getfield 9, 3) := by decide +kernel
theorem dX6_ripeSide_34 : decode cX6_ripeSide 34 = .ok (.iconst 4, 1) := by decide +kernel
theorem dX6_ripeSide_35 : decode cX6_ripeSide 35 = .ok (.iaload, 1) := by decide +kernel
theorem dX6_ripeSide_36 : decode cX6_ripeSide 36 = .ok (.istore 6, 2) := by decide +kernel
theorem dX6_ripeSide_38 : decode cX6_ripeSide 38 = .ok (.iconst 0, 1) := by decide +kernel
theorem dX6_ripeSide_39 : decode cX6_ripeSide 39 = .ok (.istore 7, 2) := by decide +kernel
theorem dX6_ripeSide_41 : decode cX6_ripeSide 41 = .ok (.iload 7, 2) := by decide +kernel
theorem dX6_ripeSide_43 : decode cX6_ripeSide 43 = .ok (.bipush 80, 2) := by decide +kernel
theorem dX6_ripeSide_45 : decode cX6_ripeSide 45 = .ok (.if_icmp .ge 220, 3) := by decide +kernel
theorem dX6_ripeSide_48 : decode cX6_ripeSide 48 = .ok (.bipush 80, 2) := by decide +kernel
theorem dX6_ripeSide_50 : decode cX6_ripeSide 50 = .ok (.iload_n 1, 1) := by decide +kernel
theorem dX6_ripeSide_51 : decode cX6_ripeSide 51 = .ok (.imul, 1) := by decide +kernel
theorem dX6_ripeSide_52 : decode cX6_ripeSide 52 = .ok (.iload 7, 2) := by decide +kernel
theorem dX6_ripeSide_54 : decode cX6_ripeSide 54 = .ok (.iadd, 1) := by decide +kernel
theorem dX6_ripeSide_55 : decode cX6_ripeSide 55 = .ok (.istore 8, 2) := by decide +kernel
theorem dX6_ripeSide_57 : decode cX6_ripeSide 57 = .ok (.iload_n 1, 1) := by decide +kernel
theorem dX6_ripeSide_58 : decode cX6_ripeSide 58 = .ok (.ifCond .ne 11, 3) := by decide +kernel
theorem dX6_ripeSide_61 : decode cX6_ripeSide 61 = .ok (.iload 7, 2) := by decide +kernel
theorem dX6_ripeSide_63 : decode cX6_ripeSide 63 = .ok (.bipush 16, 2) := by decide +kernel
theorem dX6_ripeSide_65 : decode cX6_ripeSide 65 = .ok (.idiv, 1) := by decide +kernel
theorem dX6_ripeSide_66 : decode cX6_ripeSide 66 = .ok (.goto 10, 3) := by decide +kernel
theorem dX6_ripeSide_69 : decode cX6_ripeSide 69 = .ok (.iconst 4, 1) := by decide +kernel
theorem dX6_ripeSide_70 : decode cX6_ripeSide 70 = .ok (.iload 7, 2) := by decide +kernel
theorem dX6_ripeSide_72 : decode cX6_ripeSide 72 = .ok (.bipush 16, 2) := by decide +kernel
theorem dX6_ripeSide_74 : decode cX6_ripeSide 74 = .ok (.idiv, 1) := by decide +kernel
theorem dX6_ripeSide_75 : decode cX6_ripeSide 75 = .ok (.isub, 1) := by decide +kernel
theorem dX6_ripeSide_76 : decode cX6_ripeSide 76 = .ok (.tableswitch 91 0 3 #[32, 44, 60, 74], 32) := by decide +kernel
theorem dX6_ripeSide_108 : decode cX6_ripeSide 108 = .ok (.iload_n 3, 1) := by decide +kernel
theorem dX6_ripeSide_109 : decode cX6_ripeSide 109 = .ok (.iload 4, 2) := by decide +kernel
theorem dX6_ripeSide_111 : decode cX6_ripeSide 111 = .ok (.ixor, 1) := by decide +kernel
theorem dX6_ripeSide_112 : decode cX6_ripeSide 112 = .ok (.iload 5, 2) := by decide +kernel
theorem dX6_ripeSide_114 : decode cX6_ripeSide 114 = .ok (.ixor, 1) := by decide +kernel
theorem dX6_ripeSide_115 : decode cX6_ripeSide 115 = .ok (.istore 9, 2) := by decide +kernel
theorem dX6_ripeSide_117 : decode cX6_ripeSide 117 = .ok (.goto 61, 3) := by decide +kernel
theorem dX6_ripeSide_120 : decode cX6_ripeSide 120 = .ok (.iload_n 3, 1) := by decide +kernel
theorem dX6_ripeSide_121 : decode cX6_ripeSide 121 = .ok (.iload 4, 2) := by decide +kernel
theorem dX6_ripeSide_123 : decode cX6_ripeSide 123 = .ok (.iand, 1) := by decide +kernel
theorem dX6_ripeSide_124 : decode cX6_ripeSide 124 = .ok (.iload_n 3, 1) := by decide +kernel
theorem dX6_ripeSide_125 : decode cX6_ripeSide 125 = .ok (.iconst (-1), 1) := by decide +kernel
theorem dX6_ripeSide_126 : decode cX6_ripeSide 126 = .ok (.ixor, 1) := by decide +kernel
theorem dX6_ripeSide_127 : decode cX6_ripeSide 127 = .ok (.iload 5, 2) := by decide +kernel
theorem dX6_ripeSide_129 : decode cX6_ripeSide 129 = .ok (.iand, 1) := by decide +kernel
theorem dX6_ripeSide_130 : decode cX6_ripeSide 130 = .ok (.ior, 1) := by decide +kernel
theorem dX6_ripeSide_131 : decode cX6_ripeSide 131 = .ok (.istore 9, 2) := by decide +kernel
theorem dX6_ripeSide_133 : decode cX6_ripeSide 133 = .ok (.goto 45, 3) := by decide +kernel
theorem dX6_ripeSide_136 : decode cX6_ripeSide 136 = .ok (.iload_n 3, 1) := by decide +kernel
theorem dX6_ripeSide_137 : decode cX6_ripeSide 137 = .ok (.iload 4, 2) := by decide +kernel
theorem dX6_ripeSide_139 : decode cX6_ripeSide 139 = .ok (.iconst (-1), 1) := by decide +kernel
theorem dX6_ripeSide_140 : decode cX6_ripeSide 140 = .ok (.ixor, 1) := by decide +kernel
theorem dX6_ripeSide_141 : decode cX6_ripeSide 141 = .ok (.ior, 1) := by decide +kernel
theorem dX6_ripeSide_142 : decode cX6_ripeSide 142 = .ok (.iload 5, 2) := by decide +kernel
theorem dX6_ripeSide_144 : decode cX6_ripeSide 144 = .ok (.ixor, 1) := by decide +kernel
theorem dX6_ripeSide_145 : decode cX6_ripeSide 145 = .ok (.istore 9, 2) := by decide +kernel
theorem dX6_ripeSide_147 : decode cX6_ripeSide 147 = .ok (.goto 31, 3) := by decide +kernel
theorem dX6_ripeSide_150 : decode cX6_ripeSide 150 = .ok (.iload_n 3, 1) := by decide +kernel
theorem dX6_ripeSide_151 : decode cX6_ripeSide 151 = .ok (.iload 5, 2) := by decide +kernel
theorem dX6_ripeSide_153 : decode cX6_ripeSide 153 = .ok (.iand, 1) := by decide +kernel
theorem dX6_ripeSide_154 : decode cX6_ripeSide 154 = .ok (.iload 4, 2) := by decide +kernel
theorem dX6_ripeSide_156 : decode cX6_ripeSide 156 = .ok (.iload 5, 2) := by decide +kernel
theorem dX6_ripeSide_158 : decode cX6_ripeSide 158 = .ok (.iconst (-1), 1) := by decide +kernel
theorem dX6_ripeSide_159 : decode cX6_ripeSide 159 = .ok (.ixor, 1) := by decide +kernel
theorem dX6_ripeSide_160 : decode cX6_ripeSide 160 = .ok (.iand, 1) := by decide +kernel
theorem dX6_ripeSide_161 : decode cX6_ripeSide 161 = .ok (.ior, 1) := by decide +kernel
theorem dX6_ripeSide_162 : decode cX6_ripeSide 162 = .ok (.istore 9, 2) := by decide +kernel
theorem dX6_ripeSide_164 : decode cX6_ripeSide 164 = .ok (.goto 14, 3) := by decide +kernel
theorem dX6_ripeSide_167 : decode cX6_ripeSide 167 = .ok (.iload_n 3, 1) := by decide +kernel
theorem dX6_ripeSide_168 : decode cX6_ripeSide 168 = .ok (.iload 4, 2) := by decide +kernel
theorem dX6_ripeSide_170 : decode cX6_ripeSide 170 = .ok (.iload 5, 2) := by decide +kernel
theorem dX6_ripeSide_172 : decode cX6_ripeSide 172 = .ok (.iconst (-1), 1) := by decide +kernel
theorem dX6_ripeSide_173 : decode cX6_ripeSide 173 = .ok (.ixor, 1) := by decide +kernel
theorem dX6_ripeSide_174 : decode cX6_ripeSide 174 = .ok (.ior, 1) := by decide +kernel
theorem dX6_ripeSide_175 : decode cX6_ripeSide 175 = .ok (.ixor, 1) := by decide +kernel
theorem dX6_ripeSide_176 : decode cX6_ripeSide 176 = .ok (.istore 9, 2) := by decide +kernel
theorem dX6_ripeSide_178 : decode cX6_ripeSide 178 = .ok (.iload_n 2, 1) := by decide +kernel
theorem dX6_ripeSide_179 : decode cX6_ripeSide 179 = .ok (.iload 9, 2) := by decide +kernel
theorem dX6_ripeSide_181 : decode cX6_ripeSide 181 = .ok (.iadd, 1) := by decide +kernel
theorem dX6_ripeSide_182 : decode cX6_ripeSide 182 = .ok (.aload_n 0, 1) := by decide +kernel
theorem dX6_ripeSide_183 : decode cX6_ripeSide 183 = .ok (.getfield 15, 3) := by decide +kernel
theorem dX6_ripeSide_186 : decode cX6_ripeSide 186 = .ok (.getstatic 88, 3) := by decide +kernel
theorem dX6_ripeSide_189 : decode cX6_ripeSide 189 = .ok (.iload 8, 2) := by decide +kernel
theorem dX6_ripeSide_191 : decode cX6_ripeSide 191 = .ok (.iaload, 1) := by decide +kernel
theorem dX6_ripeSide_192 : decode cX6_ripeSide 192 = .ok (.iaload, 1) := by decide +kernel
theorem dX6_ripeSide_193 : decode cX6_ripeSide 193 = .ok (.iadd, 1) := by decide +kernel
theorem dX6_ripeSide_194 : decode cX6_ripeSide 194 = .ok (.getstatic 91, 3) := by decide +kernel
theorem dX6_ripeSide_197 : decode cX6_ripeSide 197 = .ok (.iload 8, 2) := by decide +kernel
theorem dX6_ripeSide_199 : decode cX6_ripeSide 199 = .ok (.bipush 16, 2) := by decide +kernel
theorem dX6_ripeSide_201 : decode cX6_ripeSide 201 = .ok (.idiv, 1) := by decide +kernel
theorem dX6_ripeSide_202 : decode cX6_ripeSide 202 = .ok (.iaload, 1) := by decide +kernel
theorem dX6_ripeSide_203 : decode cX6_ripeSide 203 = .ok (.iadd, 1) := by decide +kernel
theorem dX6_ripeSide_204 : decode cX6_ripeSide 204 = .ok (.istore 10, 2) := by decide +kernel
theorem dX6_ripeSide_206 : decode cX6_ripeSide 206 = .ok (.getstatic 94, 3) := by decide +kernel
theorem dX6_ripeSide_209 : decode cX6_ripeSide 209 = .ok (.iload 8, 2) := by decide +kernel
theorem dX6_ripeSide_211 : decode cX6_ripeSide 211 = .ok (.iaload, 1) := by decide +kernel
theorem dX6_ripeSide_212 : decode cX6_ripeSide 212 = .ok (.istore 11, 2) := by decide +kernel
theorem dX6_ripeSide_214 : decode cX6_ripeSide 214 = .ok (.iload 10, 2) := by decide +kernel
theorem dX6_ripeSide_216 : decode cX6_ripeSide 216 = .ok (.iload 11, 2) := by decide +kernel
theorem dX6_ripeSide_218 : decode cX6_ripeSide 218 = .ok (.ishl, 1) := by decide +kernel
theorem dX6_ripeSide_219 : decode cX6_ripeSide 219 = .ok (.iload 10, 2) := by decide +kernel
theorem dX6_ripeSide_221 : decode cX6_ripeSide 221 = .ok (.bipush 32, 2) := by decide +kernel
theorem dX6_ripeSide_223 : decode cX6_ripeSide 223 = .ok (.iload 11, 2) := by decide +kernel
theorem dX6_ripeSide_225 : decode cX6_ripeSide 225 = .ok (.isub, 1) := by decide +kernel
theorem dX6_ripeSide_226 : decode cX6_ripeSide 226 = .ok (.iushr, 1) := by decide +kernel
theorem dX6_ripeSide_227 : decode cX6_ripeSide 227 = .ok (.ior, 1) := by decide +kernel
theorem dX6_ripeSide_228 : decode cX6_ripeSide 228 = .ok (.iload 6, 2) := by decide +kernel
theorem dX6_ripeSide_230 : decode cX6_ripeSide 230 = .ok (.iadd, 1) := by decide +kernel
theorem dX6_ripeSide_231 : decode cX6_ripeSide 231 = .ok (.istore 10, 2) := by decide +kernel
theorem dX6_ripeSide_233 : decode cX6_ripeSide 233 = .ok (.iload 6, 2) := by decide +kernel
theorem dX6_ripeSide_235 : decode cX6_ripeSide 235 = .ok (.istore_n 2, 1) := by decide +kernel
theorem dX6_ripeSide_236 : decode cX6_ripeSide 236 = .ok (.iload 5, 2) := by decide +kernel
theorem dX6_ripeSide_238 : decode cX6_ripeSide 238 = .ok (.istore 6, 2) := by decide +kernel
theorem dX6_ripeSide_240 : decode cX6_ripeSide 240 = .ok (.iload 4, 2) := by decide +kernel
theorem dX6_ripeSide_242 : decode cX6_ripeSide 242 = .ok (.bipush 10, 2) := by decide +kernel
theorem dX6_ripeSide_244 : decode cX6_ripeSide 244 = .ok (.ishl, 1) := by decide +kernel
theorem dX6_ripeSide_245 : decode cX6_ripeSide 245 = .ok (.iload 4, 2) := by decide +kernel
theorem dX6_ripeSide_247 : decode cX6_ripeSide 247 = .ok (.bipush 22, 2) := by decide +kernel
theorem dX6_ripeSide_249 : decode cX6_ripeSide 249 = .ok (.iushr, 1) := by decide +kernel
theorem dX6_ripeSide_250 : decode cX6_ripeSide 250 = .ok (.ior, 1) := by decide +kernel
theorem dX6_ripeSide_251 : decode cX6_ripeSide 251 = .ok (.istore 5, 2) := by decide +kernel
theorem dX6_ripeSide_253 : decode cX6_ripeSide 253 = .ok (.iload_n 3, 1) := by decide +kernel
theorem dX6_ripeSide_254 : decode cX6_ripeSide 254 = .ok (.istore 4, 2) := by decide +kernel
theorem dX6_ripeSide_256 : decode cX6_ripeSide 256 = .ok (.iload 10, 2) := by decide +kernel
theorem dX6_ripeSide_258 : decode cX6_ripeSide 258 = .ok (.istore_n 3, 1) := by decide +kernel
theorem dX6_ripeSide_259 : decode cX6_ripeSide 259 = .ok (.iinc 7 1, 3) := by decide +kernel
theorem dX6_ripeSide_262 : decode cX6_ripeSide 262 = .ok (.goto (-221), 3) := by decide +kernel
theorem dX6_ripeSide_265 : decode cX6_ripeSide 265 = .ok (.aload_n 0, 1) := by decide +kernel
theorem dX6_ripeSide_266 : decode cX6_ripeSide 266 = .ok (.getfield 18, 3) := by decide +kernel
theorem dX6_ripeSide_269 : decode cX6_ripeSide 269 = .ok (.iconst 5, 1) := by decide +kernel
theorem dX6_ripeSide_270 : decode cX6_ripeSide 270 = .ok (.iload_n 1, 1) := by decide +kernel
theorem dX6_ripeSide_271 : decode cX6_ripeSide 271 = .ok (.imul, 1) := by decide +kernel
theorem dX6_ripeSide_272 : decode cX6_ripeSide 272 = .ok (.iload_n 2, 1) := by decide +kernel
theorem dX6_ripeSide_273 : decode cX6_ripeSide 273 = .ok (.iastore, 1) := by decide +kernel
theorem dX6_ripeSide_274 : decode cX6_ripeSide 274 = .ok (.aload_n 0, 1) := by decide +kernel
theorem dX6_ripeSide_275 : decode cX6_ripeSide 275 = .ok (.getfield 18, 3) := by decide +kernel
theorem dX6_ripeSide_278 : decode cX6_ripeSide 278 = .ok (.iconst 5, 1) := by decide +kernel
theorem dX6_ripeSide_279 : decode cX6_ripeSide 279 = .ok (.iload_n 1, 1) := by decide +kernel
theorem dX6_ripeSide_280 : decode cX6_ripeSide 280 = .ok (.imul, 1) := by decide +kernel
theorem dX6_ripeSide_281 : decode cX6_ripeSide 281 = .ok (.iconst 1, 1) := by decide +kernel
theorem dX6_ripeSide_282 : decode cX6_ripeSide 282 = .ok (.iadd, 1) := by decide +kernel
theorem dX6_ripeSide_283 : decode cX6_ripeSide 283 = .ok (.iload_n 3, 1) := by decide +kernel
theorem dX6_ripeSide_284 : decode cX6_ripeSide 284 = .ok (.iastore, 1) := by decide +kernel
theorem dX6_ripeSide_285 : decode cX6_ripeSide 285 = .ok (.aload_n 0, 1) := by decide +kernel
theorem dX6_ripeSide_286 : decode cX6_ripeSide 286 = .ok (.getfield 18, 3) := by decide +kernel
theorem dX6_ripeSide_289 : decode cX6_ripeSide 289 = .ok (.iconst 5, 1) := by decide +kernel
theorem dX6_ripeSide_290 : decode cX6_ripeSide 290 = .ok (.iload_n 1, 1) := by decide +kernel
theorem dX6_ripeSide_291 : decode cX6_ripeSide 291 = .ok (.imul, 1) := by decide +kernel
theorem dX6_ripeSide_292 : decode cX6_ripeSide 292 = .ok (.iconst 2, 1) := by decide +kernel
theorem dX6_ripeSide_293 : decode cX6_ripeSide 293 = .ok (.iadd, 1) := by decide +kernel
theorem dX6_ripeSide_294 : decode cX6_ripeSide 294 = .ok (.iload 4, 2) := by decide +kernel
theorem dX6_ripeSide_296 : decode cX6_ripeSide 296 = .ok (.iastore, 1) := by decide +kernel
theorem dX6_ripeSide_297 : decode cX6_ripeSide 297 = .ok (.aload_n 0, 1) := by decide +kernel
theorem dX6_ripeSide_298 : decode cX6_ripeSide 298 = .ok (.getfield 18, 3) := by decide +kernel
theorem dX6_ripeSide_301 : decode cX6_ripeSide 301 = .ok (.iconst 5, 1) := by decide +kernel
theorem dX6_ripeSide_302 : decode cX6_ripeSide 302 = .ok (.iload_n 1, 1) := by decide +kernel
theorem dX6_ripeSide_303 : decode cX6_ripeSide 303 = .ok (.imul, 1) := by decide +kernel
theorem dX6_ripeSide_304 : decode cX6_ripeSide 304 = .ok (.iconst 3, 1) := by decide +kernel
theorem dX6_ripeSide_305 : decode cX6_ripeSide 305 = .ok (.iadd, 1) := by decide +kernel
theorem dX6_ripeSide_306 : decode cX6_ripeSide 306 = .ok (.iload 5, 2) := by decide +kernel
theorem dX6_ripeSide_308 : decode cX6_ripeSide 308 = .ok (.iastore, 1) := by decide +kernel
theorem dX6_ripeSide_309 : decode cX6_ripeSide 309 = .ok (.aload_n 0, 1) := by decide +kernel
theorem dX6_ripeSide_310 : decode cX6_ripeSide 310 = .ok (.getfield 18, 3) := by decide +kernel
theorem dX6_ripeSide_313 : decode cX6_ripeSide 313 = .ok (.iconst 5, 1) := by decide +kernel
theorem dX6_ripeSide_314 : decode cX6_ripeSide 314 = .ok (.iload_n 1, 1) := by decide +kernel
theorem dX6_ripeSide_315 : decode cX6_ripeSide 315 = .ok (.imul, 1) := by decide +kernel
theorem dX6_ripeSide_316 : decode cX6_ripeSide 316 = .ok (.iconst 4, 1) := by decide +kernel
theorem dX6_ripeSide_317 : decode cX6_ripeSide 317 = .ok (.iadd, 1) := by decide +kernel
theorem dX6_ripeSide_318 : decode cX6_ripeSide 318 = .ok (.iload 6, 2) := by decide +kernel
theorem dX6_ripeSide_320 : decode cX6_ripeSide 320 = .ok (.iastore, 1) := by decide +kernel
theorem dX6_ripeSide_321 : decode cX6_ripeSide 321 = .ok (.return_, 1) := by decide +kernel
theorem cl_X9 : vwCl[12]? = some (RX9, TX9, 3) := rfl
theorem in_X9 : ∀ w ∈ u_ws RX9 TX9 3, w ∈ lw_tbl ∧ goodWord w = true := by decide +kernel
abbrev mX9_init : ks_M := (RX9, cX9_init, 1, none, "<init>")
theorem dX9_init_0 : decode cX9_init 0 = .ok (.aload_n 0, 1) := by decide +kernel
theorem dX9_init_1 : decode cX9_init 1 = .ok (.invokespecial 3, 3) := by decide +kernel
theorem dX9_init_4 : decode cX9_init 4 = .ok (.aload_n 0, 1) := by decide +kernel
theorem dX9_init_5 : decode cX9_init 5 = .ok (.bipush 34, 2) := by decide +kernel
theorem dX9_init_7 : decode cX9_init 7 = .ok (.newarray .byte, 2) := by decide +kernel
theorem dX9_init_9 : decode cX9_init 9 = .ok (.putfield 11, 3) := by decide +kernel
theorem dX9_init_12 : decode cX9_init 12 = .ok (.aload_n 0, 1) := by decide +kernel
theorem dX9_init_13 : decode cX9_init 13 = .ok (.bipush 34, 2) := by decide +kernel
theorem dX9_init_15 : decode cX9_init 15 = .ok (.newarray .byte, 2) := by decide +kernel
theorem dX9_init_17 : decode cX9_init 17 = .ok (.putfield 15, 3) := by decide +kernel
theorem dX9_init_20 : decode cX9_init 20 = .ok (.aload_n 0, 1) := by decide +kernel
theorem dX9_init_21 : decode cX9_init 21 = .ok (.bipush 34, 2) := by decide +kernel
theorem dX9_init_23 : decode cX9_init 23 = .ok (.newarray .byte, 2) := by decide +kernel
theorem dX9_init_25 : decode cX9_init 25 = .ok (.putfield 18, 3) := by decide +kernel
theorem dX9_init_28 : decode cX9_init 28 = .ok (.return_, 1) := by decide +kernel
abbrev mX9_take : ks_M := (RX9, cX9_take, 6, (some .boolean), "take")
theorem dX9_take_0 : decode cX9_take 0 = .ok (.iload_n 1, 1) := by decide +kernel
theorem dX9_take_1 : decode cX9_take 1 = .ok (.bipush 24, 2) := by decide +kernel
theorem dX9_take_3 : decode cX9_take 3 = .ok (.iushr, 1) := by decide +kernel
theorem dX9_take_4 : decode cX9_take 4 = .ok (.istore_n 2, 1) := by decide +kernel
theorem dX9_take_5 : decode cX9_take 5 = .ok (.aload_n 0, 1) := by decide +kernel
theorem dX9_take_6 : decode cX9_take 6 = .ok (.getfield 11, 3) := by decide +kernel
theorem dX9_take_9 : decode cX9_take 9 = .ok (.iconst 0, 1) := by decide +kernel
theorem dX9_take_10 : decode cX9_take 10 = .ok (.invokestatic 21, 3) := by decide +kernel
theorem dX9_take_13 : decode cX9_take 13 = .ok (.iload_n 2, 1) := by decide +kernel
theorem dX9_take_14 : decode cX9_take 14 = .ok (.bipush 32, 2) := by decide +kernel
theorem dX9_take_16 : decode cX9_take 16 = .ok (.if_icmp .gt 10, 3) := by decide +kernel
theorem dX9_take_19 : decode cX9_take 19 = .ok (.iload_n 1, 1) := by decide +kernel
theorem dX9_take_20 : decode cX9_take 20 = .ok (.ldc 27, 2) := by decide +kernel
theorem dX9_take_22 : decode cX9_take 22 = .ok (.iand, 1) := by decide +kernel
theorem dX9_take_23 : decode cX9_take 23 = .ok (.ifCond .eq 5, 3) := by decide +kernel
theorem dX9_take_26 : decode cX9_take 26 = .ok (.iconst 0, 1) := by decide +kernel
theorem dX9_take_27 : decode cX9_take 27 = .ok (.ireturn, 1) := by decide +kernel
theorem dX9_take_28 : decode cX9_take 28 = .ok (.iconst 0, 1) := by decide +kernel
theorem dX9_take_29 : decode cX9_take 29 = .ok (.istore_n 3, 1) := by decide +kernel
theorem dX9_take_30 : decode cX9_take 30 = .ok (.iconst 0, 1) := by decide +kernel
theorem dX9_take_31 : decode cX9_take 31 = .ok (.istore 4, 2) := by decide +kernel
theorem dX9_take_33 : decode cX9_take 33 = .ok (.iload 4, 2) := by decide +kernel
theorem dX9_take_35 : decode cX9_take 35 = .ok (.iconst 3, 1) := by decide +kernel
theorem dX9_take_36 : decode cX9_take 36 = .ok (.if_icmp .ge 47, 3) := by decide +kernel
theorem dX9_take_39 : decode cX9_take 39 = .ok (.iload_n 2, 1) := by decide +kernel
theorem dX9_take_40 : decode cX9_take 40 = .ok (.iconst 3, 1) := by decide +kernel
theorem dX9_take_41 : decode cX9_take 41 = .ok (.isub, 1) := by decide +kernel
theorem dX9_take_42 : decode cX9_take 42 = .ok (.iload 4, 2) := by decide +kernel
theorem dX9_take_44 : decode cX9_take 44 = .ok (.iadd, 1) := by decide +kernel
theorem dX9_take_45 : decode cX9_take 45 = .ok (.istore 5, 2) := by decide +kernel
theorem dX9_take_47 : decode cX9_take 47 = .ok (.iload 5, 2) := by decide +kernel
theorem dX9_take_49 : decode cX9_take 49 = .ok (.ifCond .lt 28, 3) := by decide +kernel
theorem dX9_take_52 : decode cX9_take 52 = .ok (.aload_n 0, 1) := by decide +kernel
theorem dX9_take_53 : decode cX9_take 53 = .ok (.getfield 11, 3) := by decide +kernel
theorem dX9_take_56 : decode cX9_take 56 = .ok (.iload 5, 2) := by decide +kernel
theorem dX9_take_58 : decode cX9_take 58 = .ok (.iload_n 1, 1) := by decide +kernel
theorem dX9_take_59 : decode cX9_take 59 = .ok (.bipush 8, 2) := by decide +kernel
theorem dX9_take_61 : decode cX9_take 61 = .ok (.iload 4, 2) := by decide +kernel
theorem dX9_take_63 : decode cX9_take 63 = .ok (.imul, 1) := by decide +kernel
theorem dX9_take_64 : decode cX9_take 64 = .ok (.iushr, 1) := by decide +kernel
theorem dX9_take_65 : decode cX9_take 65 = .ok (.i2b, 1) := by decide +kernel
theorem dX9_take_66 : decode cX9_take 66 = .ok (.bastore, 1) := by decide +kernel
theorem dX9_take_67 : decode cX9_take 67 = .ok (.iload_n 3, 1) := by decide +kernel
theorem dX9_take_68 : decode cX9_take 68 = .ok (.aload_n 0, 1) := by decide +kernel
theorem dX9_take_69 : decode cX9_take 69 = .ok (.getfield 11, 3) := by decide +kernel
theorem dX9_take_72 : decode cX9_take 72 = .ok (.iload 5, 2) := by decide +kernel
theorem dX9_take_74 : decode cX9_take 74 = .ok (.baload, 1) := by decide +kernel
theorem dX9_take_75 : decode cX9_take 75 = .ok (.ior, 1) := by decide +kernel
theorem dX9_take_76 : decode cX9_take 76 = .ok (.istore_n 3, 1) := by decide +kernel
theorem dX9_take_77 : decode cX9_take 77 = .ok (.iinc 4 1, 3) := by decide +kernel
theorem dX9_take_80 : decode cX9_take 80 = .ok (.goto (-47), 3) := by decide +kernel
theorem dX9_take_83 : decode cX9_take 83 = .ok (.iload_n 3, 1) := by decide +kernel
theorem dX9_take_84 : decode cX9_take 84 = .ok (.ifCond .eq 7, 3) := by decide +kernel
theorem dX9_take_87 : decode cX9_take 87 = .ok (.iconst 1, 1) := by decide +kernel
theorem dX9_take_88 : decode cX9_take 88 = .ok (.goto 4, 3) := by decide +kernel
theorem dX9_take_91 : decode cX9_take 91 = .ok (.iconst 0, 1) := by decide +kernel
theorem dX9_take_92 : decode cX9_take 92 = .ok (.ireturn, 1) := by decide +kernel
abbrev mX9_isReachedBy : ks_M := (RX9, cX9_isReachedBy, 3, (some .boolean), "isReachedBy")
theorem dX9_isReachedBy_0 : decode cX9_isReachedBy 0 = .ok (.bipush 31, 2) := by decide +kernel
theorem dX9_isReachedBy_2 : decode cX9_isReachedBy 2 = .ok (.istore_n 2, 1) := by decide +kernel
theorem dX9_isReachedBy_3 : decode cX9_isReachedBy 3 = .ok (.iload_n 2, 1) := by decide +kernel
theorem dX9_isReachedBy_4 : decode cX9_isReachedBy 4 = .ok (.ifCond .lt 47, 3) := by decide +kernel
theorem dX9_isReachedBy_7 : decode cX9_isReachedBy 7 = .ok (.aload_n 1, 1) := by decide +kernel
theorem dX9_isReachedBy_8 : decode cX9_isReachedBy 8 = .ok (.iload_n 2, 1) := by decide +kernel
theorem dX9_isReachedBy_9 : decode cX9_isReachedBy 9 = .ok (.baload, 1) := by decide +kernel
theorem dX9_isReachedBy_10 : decode cX9_isReachedBy 10 = .ok (.aload_n 0, 1) := by decide +kernel
theorem dX9_isReachedBy_11 : decode cX9_isReachedBy 11 = .ok (.getfield 11, 3) := by decide +kernel
theorem dX9_isReachedBy_14 : decode cX9_isReachedBy 14 = .ok (.iload_n 2, 1) := by decide +kernel
theorem dX9_isReachedBy_15 : decode cX9_isReachedBy 15 = .ok (.baload, 1) := by decide +kernel
theorem dX9_isReachedBy_16 : decode cX9_isReachedBy 16 = .ok (.if_icmp .eq 29, 3) := by decide +kernel
theorem dX9_isReachedBy_19 : decode cX9_isReachedBy 19 = .ok (.aload_n 1, 1) := by decide +kernel
theorem dX9_isReachedBy_20 : decode cX9_isReachedBy 20 = .ok (.iload_n 2, 1) := by decide +kernel
theorem dX9_isReachedBy_21 : decode cX9_isReachedBy 21 = .ok (.baload, 1) := by decide +kernel
theorem dX9_isReachedBy_22 : decode cX9_isReachedBy 22 = .ok (.sipush 255, 3) := by decide +kernel
theorem dX9_isReachedBy_25 : decode cX9_isReachedBy 25 = .ok (.iand, 1) := by decide +kernel
theorem dX9_isReachedBy_26 : decode cX9_isReachedBy 26 = .ok (.aload_n 0, 1) := by decide +kernel
theorem dX9_isReachedBy_27 : decode cX9_isReachedBy 27 = .ok (.getfield 11, 3) := by decide +kernel
theorem dX9_isReachedBy_30 : decode cX9_isReachedBy 30 = .ok (.iload_n 2, 1) := by decide +kernel
theorem dX9_isReachedBy_31 : decode cX9_isReachedBy 31 = .ok (.baload, 1) := by decide +kernel
theorem dX9_isReachedBy_32 : decode cX9_isReachedBy 32 = .ok (.sipush 255, 3) := by decide +kernel
theorem dX9_isReachedBy_35 : decode cX9_isReachedBy 35 = .ok (.iand, 1) := by decide +kernel
theorem dX9_isReachedBy_36 : decode cX9_isReachedBy 36 = .ok (.if_icmp .ge 7, 3) := by decide +kernel
theorem dX9_isReachedBy_39 : decode cX9_isReachedBy 39 = .ok (.iconst 1, 1) := by decide +kernel
theorem dX9_isReachedBy_40 : decode cX9_isReachedBy 40 = .ok (.goto 4, 3) := by decide +kernel
theorem dX9_isReachedBy_43 : decode cX9_isReachedBy 43 = .ok (.iconst 0, 1) := by decide +kernel
theorem dX9_isReachedBy_44 : decode cX9_isReachedBy 44 = .ok (.ireturn, 1) := by decide +kernel
theorem dX9_isReachedBy_45 : decode cX9_isReachedBy 45 = .ok (.iinc 2 (-1), 3) := by decide +kernel
theorem dX9_isReachedBy_48 : decode cX9_isReachedBy 48 = .ok (.goto (-45), 3) := by decide +kernel
theorem dX9_isReachedBy_51 : decode cX9_isReachedBy 51 = .ok (.iconst 1, 1) := by decide +kernel
theorem dX9_isReachedBy_52 : decode cX9_isReachedBy 52 = .ok (.ireturn, 1) := by decide +kernel
abbrev mX9_stretch : ks_M := (RX9, cX9_stretch, 8, none, "stretch")
theorem dX9_stretch_0 : decode cX9_stretch 0 = .ok (.ldc2_w 28, 3) := by decide +kernel
theorem dX9_stretch_3 : decode cX9_stretch 3 = .ok (.ldc2_w 30, 3) := by decide +kernel
theorem dX9_stretch_6 : decode cX9_stretch 6 = .ok (.lload_n 1, 1) := by decide +kernel
theorem dX9_stretch_7 : decode cX9_stretch 7 = .ok (.invokestatic 32, 3) := by decide +kernel
theorem dX9_stretch_10 : decode cX9_stretch 10 = .ok (.invokestatic 38, 3) := by decide +kernel
theorem dX9_stretch_13 : decode cX9_stretch 13 = .ok (.lstore_n 3, 1) := by decide +kernel
theorem dX9_stretch_14 : decode cX9_stretch 14 = .ok (.lconst 0, 1) := by decide +kernel
theorem dX9_stretch_15 : decode cX9_stretch 15 = .ok (.lstore 5, 2) := by decide +kernel
theorem dX9_stretch_17 : decode cX9_stretch 17 = .ok (.iconst 0, 1) := by decide +kernel
theorem dX9_stretch_18 : decode cX9_stretch 18 = .ok (.istore 7, 2) := by decide +kernel
theorem dX9_stretch_20 : decode cX9_stretch 20 = .ok (.iload 7, 2) := by decide +kernel
theorem dX9_stretch_22 : decode cX9_stretch 22 = .ok (.bipush 34, 2) := by decide +kernel
theorem dX9_stretch_24 : decode cX9_stretch 24 = .ok (.if_icmp .ge 46, 3) := by decide +kernel
theorem dX9_stretch_27 : decode cX9_stretch 27 = .ok (.lload 5, 2) := by decide +kernel
theorem dX9_stretch_29 : decode cX9_stretch 29 = .ok (.aload_n 0, 1) := by decide +kernel
theorem dX9_stretch_30 : decode cX9_stretch 30 = .ok (.getfield 11, 3) := by decide +kernel
theorem dX9_stretch_33 : decode cX9_stretch 33 = .ok (.iload 7, 2) := by decide +kernel
theorem dX9_stretch_35 : decode cX9_stretch 35 = .ok (.baload, 1) := by decide +kernel
theorem dX9_stretch_36 : decode cX9_stretch 36 = .ok (.sipush 255, 3) := by decide +kernel
theorem dX9_stretch_39 : decode cX9_stretch 39 = .ok (.iand, 1) := by decide +kernel
theorem dX9_stretch_40 : decode cX9_stretch 40 = .ok (.i2l, 1) := by decide +kernel
theorem dX9_stretch_41 : decode cX9_stretch 41 = .ok (.lload_n 3, 1) := by decide +kernel
theorem dX9_stretch_42 : decode cX9_stretch 42 = .ok (.lmul, 1) := by decide +kernel
theorem dX9_stretch_43 : decode cX9_stretch 43 = .ok (.ladd, 1) := by decide +kernel
theorem dX9_stretch_44 : decode cX9_stretch 44 = .ok (.lstore 5, 2) := by decide +kernel
theorem dX9_stretch_46 : decode cX9_stretch 46 = .ok (.aload_n 0, 1) := by decide +kernel
theorem dX9_stretch_47 : decode cX9_stretch 47 = .ok (.getfield 11, 3) := by decide +kernel
theorem dX9_stretch_50 : decode cX9_stretch 50 = .ok (.iload 7, 2) := by decide +kernel
theorem dX9_stretch_52 : decode cX9_stretch 52 = .ok (.lload 5, 2) := by decide +kernel
theorem dX9_stretch_54 : decode cX9_stretch 54 = .ok (.l2i, 1) := by decide +kernel
theorem dX9_stretch_55 : decode cX9_stretch 55 = .ok (.i2b, 1) := by decide +kernel
theorem dX9_stretch_56 : decode cX9_stretch 56 = .ok (.bastore, 1) := by decide +kernel
theorem dX9_stretch_57 : decode cX9_stretch 57 = .ok (.lload 5, 2) := by decide +kernel
theorem dX9_stretch_59 : decode cX9_stretch 59 = .ok (.bipush 8, 2) := by decide +kernel
theorem dX9_stretch_61 : decode cX9_stretch 61 = .ok (.lshr, 1) := by decide +kernel
theorem dX9_stretch_62 : decode cX9_stretch 62 = .ok (.lstore 5, 2) := by decide +kernel
theorem dX9_stretch_64 : decode cX9_stretch 64 = .ok (.iinc 7 1, 3) := by decide +kernel
theorem dX9_stretch_67 : decode cX9_stretch 67 = .ok (.goto (-47), 3) := by decide +kernel
theorem dX9_stretch_70 : decode cX9_stretch 70 = .ok (.bipush 33, 2) := by decide +kernel
theorem dX9_stretch_72 : decode cX9_stretch 72 = .ok (.istore 7, 2) := by decide +kernel
theorem dX9_stretch_74 : decode cX9_stretch 74 = .ok (.iload 7, 2) := by decide +kernel
theorem dX9_stretch_76 : decode cX9_stretch 76 = .ok (.ifCond .lt 52, 3) := by decide +kernel
theorem dX9_stretch_79 : decode cX9_stretch 79 = .ok (.lload 5, 2) := by decide +kernel
theorem dX9_stretch_81 : decode cX9_stretch 81 = .ok (.bipush 8, 2) := by decide +kernel
theorem dX9_stretch_83 : decode cX9_stretch 83 = .ok (.lshl, 1) := by decide +kernel
theorem dX9_stretch_84 : decode cX9_stretch 84 = .ok (.aload_n 0, 1) := by decide +kernel
theorem dX9_stretch_85 : decode cX9_stretch 85 = .ok (.getfield 11, 3) := by decide +kernel
theorem dX9_stretch_88 : decode cX9_stretch 88 = .ok (.iload 7, 2) := by decide +kernel
theorem dX9_stretch_90 : decode cX9_stretch 90 = .ok (.baload, 1) := by decide +kernel
theorem dX9_stretch_91 : decode cX9_stretch 91 = .ok (.sipush 255, 3) := by decide +kernel
theorem dX9_stretch_94 : decode cX9_stretch 94 = .ok (.iand, 1) := by decide +kernel
theorem dX9_stretch_95 : decode cX9_stretch 95 = .ok (.i2l, 1) := by decide +kernel
theorem dX9_stretch_96 : decode cX9_stretch 96 = .ok (.lor, 1) := by decide +kernel
theorem dX9_stretch_97 : decode cX9_stretch 97 = .ok (.lstore 5, 2) := by decide +kernel
theorem dX9_stretch_99 : decode cX9_stretch 99 = .ok (.aload_n 0, 1) := by decide +kernel
theorem dX9_stretch_100 : decode cX9_stretch 100 = .ok (.getfield 11, 3) := by decide +kernel
theorem dX9_stretch_103 : decode cX9_stretch 103 = .ok (.iload 7, 2) := by decide +kernel
theorem dX9_stretch_105 : decode cX9_stretch 105 = .ok (.lload 5, 2) := by decide +kernel
theorem dX9_stretch_107 : decode cX9_stretch 107 = .ok (.ldc2_w 41, 3) := by decide +kernel
theorem dX9_stretch_110 : decode cX9_stretch 110 = .ok (.ldiv, 1) := by decide +kernel
theorem dX9_stretch_111 : decode cX9_stretch 111 = .ok (.l2i, 1) := by decide +kernel
theorem dX9_stretch_112 : decode cX9_stretch 112 = .ok (.i2b, 1) := by decide +kernel
theorem dX9_stretch_113 : decode cX9_stretch 113 = .ok (.bastore, 1) := by decide +kernel
theorem dX9_stretch_114 : decode cX9_stretch 114 = .ok (.lload 5, 2) := by decide +kernel
theorem dX9_stretch_116 : decode cX9_stretch 116 = .ok (.ldc2_w 41, 3) := by decide +kernel
theorem dX9_stretch_119 : decode cX9_stretch 119 = .ok (.lrem, 1) := by decide +kernel
theorem dX9_stretch_120 : decode cX9_stretch 120 = .ok (.lstore 5, 2) := by decide +kernel
theorem dX9_stretch_122 : decode cX9_stretch 122 = .ok (.iinc 7 (-1), 3) := by decide +kernel
theorem dX9_stretch_125 : decode cX9_stretch 125 = .ok (.goto (-51), 3) := by decide +kernel
theorem dX9_stretch_128 : decode cX9_stretch 128 = .ok (.aload_n 0, 1) := by decide +kernel
theorem dX9_stretch_129 : decode cX9_stretch 129 = .ok (.getfield 11, 3) := by decide +kernel
theorem dX9_stretch_132 : decode cX9_stretch 132 = .ok (.bipush 33, 2) := by decide +kernel
theorem dX9_stretch_134 : decode cX9_stretch 134 = .ok (.baload, 1) := by decide +kernel
theorem dX9_stretch_135 : decode cX9_stretch 135 = .ok (.ifCond .ne 23, 3) := by decide +kernel
theorem dX9_stretch_138 : decode cX9_stretch 138 = .ok (.aload_n 0, 1) := by decide +kernel
theorem dX9_stretch_139 : decode cX9_stretch 139 = .ok (.getfield 11, 3) := by decide +kernel
theorem dX9_stretch_142 : decode cX9_stretch 142 = .ok (.bipush 32, 2) := by decide +kernel
theorem dX9_stretch_144 : decode cX9_stretch 144 = .ok (.baload, 1) := by decide +kernel
theorem dX9_stretch_145 : decode cX9_stretch 145 = .ok (.ifCond .ne 13, 3) := by decide +kernel
theorem dX9_stretch_148 : decode cX9_stretch 148 = .ok (.aload_n 0, 1) := by decide +kernel
theorem dX9_stretch_149 : decode cX9_stretch 149 = .ok (.getfield 11, 3) := by decide +kernel
theorem dX9_stretch_152 : decode cX9_stretch 152 = .ok (.bipush 31, 2) := by decide +kernel
theorem dX9_stretch_154 : decode cX9_stretch 154 = .ok (.baload, 1) := by decide +kernel
theorem dX9_stretch_155 : decode cX9_stretch 155 = .ok (.ifCond .ge 10, 3) := by decide +kernel
theorem dX9_stretch_158 : decode cX9_stretch 158 = .ok (.aload_n 0, 1) := by decide +kernel
theorem dX9_stretch_159 : decode cX9_stretch 159 = .ok (.ldc 43, 2) := by decide +kernel
theorem dX9_stretch_161 : decode cX9_stretch 161 = .ok (.invokevirtual 44, 3) := by decide +kernel
theorem dX9_stretch_164 : decode cX9_stretch 164 = .ok (.pop, 1) := by decide +kernel
theorem dX9_stretch_165 : decode cX9_stretch 165 = .ok (.return_, 1) := by decide +kernel
abbrev mX9_asBits : ks_M := (RX9, cX9_asBits, 4, (some .int), "asBits")
theorem dX9_asBits_0 : decode cX9_asBits 0 = .ok (.bipush 34, 2) := by decide +kernel
theorem dX9_asBits_2 : decode cX9_asBits 2 = .ok (.istore_n 1, 1) := by decide +kernel
theorem dX9_asBits_3 : decode cX9_asBits 3 = .ok (.iload_n 1, 1) := by decide +kernel
theorem dX9_asBits_4 : decode cX9_asBits 4 = .ok (.ifCond .le 20, 3) := by decide +kernel
theorem dX9_asBits_7 : decode cX9_asBits 7 = .ok (.aload_n 0, 1) := by decide +kernel
theorem dX9_asBits_8 : decode cX9_asBits 8 = .ok (.getfield 11, 3) := by decide +kernel
theorem dX9_asBits_11 : decode cX9_asBits 11 = .ok (.iload_n 1, 1) := by decide +kernel
theorem dX9_asBits_12 : decode cX9_asBits 12 = .ok (.iconst 1, 1) := by decide +kernel
theorem dX9_asBits_13 : decode cX9_asBits 13 = .ok (.isub, 1) := by decide +kernel
theorem dX9_asBits_14 : decode cX9_asBits 14 = .ok (.baload, 1) := by decide +kernel
theorem dX9_asBits_15 : decode cX9_asBits 15 = .ok (.ifCond .ne 9, 3) := by decide +kernel
theorem dX9_asBits_18 : decode cX9_asBits 18 = .ok (.iinc 1 (-1), 3) := by decide +kernel
theorem dX9_asBits_21 : decode cX9_asBits 21 = .ok (.goto (-18), 3) := by decide +kernel
theorem dX9_asBits_24 : decode cX9_asBits 24 = .ok (.iconst 0, 1) := by decide +kernel
theorem dX9_asBits_25 : decode cX9_asBits 25 = .ok (.istore_n 2, 1) := by decide +kernel
theorem dX9_asBits_26 : decode cX9_asBits 26 = .ok (.iconst 1, 1) := by decide +kernel
theorem dX9_asBits_27 : decode cX9_asBits 27 = .ok (.istore_n 3, 1) := by decide +kernel
theorem dX9_asBits_28 : decode cX9_asBits 28 = .ok (.iload_n 3, 1) := by decide +kernel
theorem dX9_asBits_29 : decode cX9_asBits 29 = .ok (.iconst 3, 1) := by decide +kernel
theorem dX9_asBits_30 : decode cX9_asBits 30 = .ok (.if_icmp .gt 36, 3) := by decide +kernel
theorem dX9_asBits_33 : decode cX9_asBits 33 = .ok (.iload_n 2, 1) := by decide +kernel
theorem dX9_asBits_34 : decode cX9_asBits 34 = .ok (.bipush 8, 2) := by decide +kernel
theorem dX9_asBits_36 : decode cX9_asBits 36 = .ok (.ishl, 1) := by decide +kernel
theorem dX9_asBits_37 : decode cX9_asBits 37 = .ok (.iload_n 1, 1) := by decide +kernel
theorem dX9_asBits_38 : decode cX9_asBits 38 = .ok (.iload_n 3, 1) := by decide +kernel
theorem dX9_asBits_39 : decode cX9_asBits 39 = .ok (.if_icmp .lt 18, 3) := by decide +kernel
theorem dX9_asBits_42 : decode cX9_asBits 42 = .ok (.aload_n 0, 1) := by decide +kernel
theorem dX9_asBits_43 : decode cX9_asBits 43 = .ok (.getfield 11, 3) := by decide +kernel
theorem dX9_asBits_46 : decode cX9_asBits 46 = .ok (.iload_n 1, 1) := by decide +kernel
theorem dX9_asBits_47 : decode cX9_asBits 47 = .ok (.iload_n 3, 1) := by decide +kernel
theorem dX9_asBits_48 : decode cX9_asBits 48 = .ok (.isub, 1) := by decide +kernel
theorem dX9_asBits_49 : decode cX9_asBits 49 = .ok (.baload, 1) := by decide +kernel
theorem dX9_asBits_50 : decode cX9_asBits 50 = .ok (.sipush 255, 3) := by decide +kernel
theorem dX9_asBits_53 : decode cX9_asBits 53 = .ok (.iand, 1) := by decide +kernel
theorem dX9_asBits_54 : decode cX9_asBits 54 = .ok (.goto 4, 3) := by decide +kernel
theorem dX9_asBits_57 : decode cX9_asBits 57 = .ok (.iconst 0, 1) := by decide +kernel
theorem dX9_asBits_58 : decode cX9_asBits 58 = .ok (.ior, 1) := by decide +kernel
theorem dX9_asBits_59 : decode cX9_asBits 59 = .ok (.istore_n 2, 1) := by decide +kernel
theorem dX9_asBits_60 : decode cX9_asBits 60 = .ok (.iinc 3 1, 3) := by decide +kernel
theorem dX9_asBits_63 : decode cX9_asBits 63 = .ok (.goto (-35), 3) := by decide +kernel
theorem dX9_asBits_66 : decode cX9_asBits 66 = .ok (.iload_n 2, 1) := by decide +kernel
theorem dX9_asBits_67 : decode cX9_asBits 67 = .ok (.ldc 27, 2) := by decide +kernel
theorem dX9_asBits_69 : decode cX9_asBits 69 = .ok (.iand, 1) := by decide +kernel
theorem dX9_asBits_70 : decode cX9_asBits 70 = .ok (.ifCond .eq 11, 3) := by decide +kernel
theorem dX9_asBits_73 : decode cX9_asBits 73 = .ok (.iload_n 2, 1) := by decide +kernel
theorem dX9_asBits_74 : decode cX9_asBits 74 = .ok (.bipush 8, 2) := by decide +kernel
theorem dX9_asBits_76 : decode cX9_asBits 76 = .ok (.iushr, 1) := by decide +kernel
theorem dX9_asBits_77 : decode cX9_asBits 77 = .ok (.istore_n 2, 1) := by decide +kernel
theorem dX9_asBits_78 : decode cX9_asBits 78 = .ok (.iinc 1 1, 3) := by decide +kernel
theorem dX9_asBits_81 : decode cX9_asBits 81 = .ok (.iload_n 1, 1) := by decide +kernel
theorem dX9_asBits_82 : decode cX9_asBits 82 = .ok (.bipush 24, 2) := by decide +kernel
theorem dX9_asBits_84 : decode cX9_asBits 84 = .ok (.ishl, 1) := by decide +kernel
theorem dX9_asBits_85 : decode cX9_asBits 85 = .ok (.iload_n 2, 1) := by decide +kernel
theorem dX9_asBits_86 : decode cX9_asBits 86 = .ok (.ior, 1) := by decide +kernel
theorem dX9_asBits_87 : decode cX9_asBits 87 = .ok (.ireturn, 1) := by decide +kernel
abbrev mX9_work : ks_M := (RX9, cX9_work, 6, (some .long), "work")
theorem dX9_work_0 : decode cX9_work 0 = .ok (.aload_n 0, 1) := by decide +kernel
theorem dX9_work_1 : decode cX9_work 1 = .ok (.getfield 11, 3) := by decide +kernel
theorem dX9_work_4 : decode cX9_work 4 = .ok (.iconst 0, 1) := by decide +kernel
theorem dX9_work_5 : decode cX9_work 5 = .ok (.aload_n 0, 1) := by decide +kernel
theorem dX9_work_6 : decode cX9_work 6 = .ok (.getfield 15, 3) := by decide +kernel
theorem dX9_work_9 : decode cX9_work 9 = .ok (.iconst 0, 1) := by decide +kernel
theorem dX9_work_10 : decode cX9_work 10 = .ok (.bipush 34, 2) := by decide +kernel
theorem dX9_work_12 : decode cX9_work 12 = .ok (.invokestatic 48, 3) := by decide +kernel
theorem dX9_work_15 : decode cX9_work 15 = .ok (.iconst 1, 1) := by decide +kernel
theorem dX9_work_16 : decode cX9_work 16 = .ok (.istore_n 1, 1) := by decide +kernel
theorem dX9_work_17 : decode cX9_work 17 = .ok (.iconst 0, 1) := by decide +kernel
theorem dX9_work_18 : decode cX9_work 18 = .ok (.istore_n 2, 1) := by decide +kernel
theorem dX9_work_19 : decode cX9_work 19 = .ok (.iload_n 2, 1) := by decide +kernel
theorem dX9_work_20 : decode cX9_work 20 = .ok (.bipush 34, 2) := by decide +kernel
theorem dX9_work_22 : decode cX9_work 22 = .ok (.if_icmp .ge 39, 3) := by decide +kernel
theorem dX9_work_25 : decode cX9_work 25 = .ok (.iload_n 1, 1) := by decide +kernel
theorem dX9_work_26 : decode cX9_work 26 = .ok (.ifCond .eq 35, 3) := by decide +kernel
theorem dX9_work_29 : decode cX9_work 29 = .ok (.aload_n 0, 1) := by decide +kernel
theorem dX9_work_30 : decode cX9_work 30 = .ok (.getfield 15, 3) := by decide +kernel
theorem dX9_work_33 : decode cX9_work 33 = .ok (.iload_n 2, 1) := by decide +kernel
theorem dX9_work_34 : decode cX9_work 34 = .ok (.dup2, 1) := by decide +kernel
theorem dX9_work_35 : decode cX9_work 35 = .ok (.baload, 1) := by decide +kernel
theorem dX9_work_36 : decode cX9_work 36 = .ok (.iconst 1, 1) := by decide +kernel
theorem dX9_work_37 : decode cX9_work 37 = .ok (.iadd, 1) := by decide +kernel
theorem dX9_work_38 : decode cX9_work 38 = .ok (.i2b, 1) := by decide +kernel
theorem dX9_work_39 : decode cX9_work 39 = .ok (.bastore, 1) := by decide +kernel
theorem dX9_work_40 : decode cX9_work 40 = .ok (.aload_n 0, 1) := by decide +kernel
theorem dX9_work_41 : decode cX9_work 41 = .ok (.getfield 15, 3) := by decide +kernel
theorem dX9_work_44 : decode cX9_work 44 = .ok (.iload_n 2, 1) := by decide +kernel
theorem dX9_work_45 : decode cX9_work 45 = .ok (.baload, 1) := by decide +kernel
theorem dX9_work_46 : decode cX9_work 46 = .ok (.ifCond .ne 7, 3) := by decide +kernel
theorem dX9_work_49 : decode cX9_work 49 = .ok (.iconst 1, 1) := by decide +kernel
theorem dX9_work_50 : decode cX9_work 50 = .ok (.goto 4, 3) := by decide +kernel
theorem dX9_work_53 : decode cX9_work 53 = .ok (.iconst 0, 1) := by decide +kernel
theorem dX9_work_54 : decode cX9_work 54 = .ok (.istore_n 1, 1) := by decide +kernel
theorem dX9_work_55 : decode cX9_work 55 = .ok (.iinc 2 1, 3) := by decide +kernel
theorem dX9_work_58 : decode cX9_work 58 = .ok (.goto (-39), 3) := by decide +kernel
theorem dX9_work_61 : decode cX9_work 61 = .ok (.sipush 256, 3) := by decide +kernel
theorem dX9_work_64 : decode cX9_work 64 = .ok (.istore_n 2, 1) := by decide +kernel
theorem dX9_work_65 : decode cX9_work 65 = .ok (.iload_n 2, 1) := by decide +kernel
theorem dX9_work_66 : decode cX9_work 66 = .ok (.ifCond .le 28, 3) := by decide +kernel
theorem dX9_work_69 : decode cX9_work 69 = .ok (.aload_n 0, 1) := by decide +kernel
theorem dX9_work_70 : decode cX9_work 70 = .ok (.getfield 15, 3) := by decide +kernel
theorem dX9_work_73 : decode cX9_work 73 = .ok (.iload_n 2, 1) := by decide +kernel
theorem dX9_work_74 : decode cX9_work 74 = .ok (.bipush 8, 2) := by decide +kernel
theorem dX9_work_76 : decode cX9_work 76 = .ok (.idiv, 1) := by decide +kernel
theorem dX9_work_77 : decode cX9_work 77 = .ok (.baload, 1) := by decide +kernel
theorem dX9_work_78 : decode cX9_work 78 = .ok (.iload_n 2, 1) := by decide +kernel
theorem dX9_work_79 : decode cX9_work 79 = .ok (.bipush 8, 2) := by decide +kernel
theorem dX9_work_81 : decode cX9_work 81 = .ok (.irem, 1) := by decide +kernel
theorem dX9_work_82 : decode cX9_work 82 = .ok (.iushr, 1) := by decide +kernel
theorem dX9_work_83 : decode cX9_work 83 = .ok (.iconst 1, 1) := by decide +kernel
theorem dX9_work_84 : decode cX9_work 84 = .ok (.iand, 1) := by decide +kernel
theorem dX9_work_85 : decode cX9_work 85 = .ok (.ifCond .ne 9, 3) := by decide +kernel
theorem dX9_work_88 : decode cX9_work 88 = .ok (.iinc 2 (-1), 3) := by decide +kernel
theorem dX9_work_91 : decode cX9_work 91 = .ok (.goto (-26), 3) := by decide +kernel
theorem dX9_work_94 : decode cX9_work 94 = .ok (.aload_n 0, 1) := by decide +kernel
theorem dX9_work_95 : decode cX9_work 95 = .ok (.getfield 18, 3) := by decide +kernel
theorem dX9_work_98 : decode cX9_work 98 = .ok (.iconst 0, 1) := by decide +kernel
theorem dX9_work_99 : decode cX9_work 99 = .ok (.invokestatic 21, 3) := by decide +kernel
theorem dX9_work_102 : decode cX9_work 102 = .ok (.aload_n 0, 1) := by decide +kernel
theorem dX9_work_103 : decode cX9_work 103 = .ok (.getfield 18, 3) := by decide +kernel
theorem dX9_work_106 : decode cX9_work 106 = .ok (.iload_n 2, 1) := by decide +kernel
theorem dX9_work_107 : decode cX9_work 107 = .ok (.bipush 8, 2) := by decide +kernel
theorem dX9_work_109 : decode cX9_work 109 = .ok (.idiv, 1) := by decide +kernel
theorem dX9_work_110 : decode cX9_work 110 = .ok (.iconst 1, 1) := by decide +kernel
theorem dX9_work_111 : decode cX9_work 111 = .ok (.iload_n 2, 1) := by decide +kernel
theorem dX9_work_112 : decode cX9_work 112 = .ok (.bipush 8, 2) := by decide +kernel
theorem dX9_work_114 : decode cX9_work 114 = .ok (.irem, 1) := by decide +kernel
theorem dX9_work_115 : decode cX9_work 115 = .ok (.ishl, 1) := by decide +kernel
theorem dX9_work_116 : decode cX9_work 116 = .ok (.i2b, 1) := by decide +kernel
theorem dX9_work_117 : decode cX9_work 117 = .ok (.bastore, 1) := by decide +kernel
theorem dX9_work_118 : decode cX9_work 118 = .ok (.aload_n 0, 1) := by decide +kernel
theorem dX9_work_119 : decode cX9_work 119 = .ok (.invokevirtual 54, 3) := by decide +kernel
theorem dX9_work_122 : decode cX9_work 122 = .ok (.ifCond .eq 7, 3) := by decide +kernel
theorem dX9_work_125 : decode cX9_work 125 = .ok (.lconst 1, 1) := by decide +kernel
theorem dX9_work_126 : decode cX9_work 126 = .ok (.goto 4, 3) := by decide +kernel
theorem dX9_work_129 : decode cX9_work 129 = .ok (.lconst 0, 1) := by decide +kernel
theorem dX9_work_130 : decode cX9_work 130 = .ok (.lstore_n 3, 1) := by decide +kernel
theorem dX9_work_131 : decode cX9_work 131 = .ok (.iload_n 2, 1) := by decide +kernel
theorem dX9_work_132 : decode cX9_work 132 = .ok (.istore 5, 2) := by decide +kernel
theorem dX9_work_134 : decode cX9_work 134 = .ok (.iload 5, 2) := by decide +kernel
theorem dX9_work_136 : decode cX9_work 136 = .ok (.sipush 256, 3) := by decide +kernel
theorem dX9_work_139 : decode cX9_work 139 = .ok (.if_icmp .ge 31, 3) := by decide +kernel
theorem dX9_work_142 : decode cX9_work 142 = .ok (.aload_n 0, 1) := by decide +kernel
theorem dX9_work_143 : decode cX9_work 143 = .ok (.invokevirtual 58, 3) := by decide +kernel
theorem dX9_work_146 : decode cX9_work 146 = .ok (.lload_n 3, 1) := by decide +kernel
theorem dX9_work_147 : decode cX9_work 147 = .ok (.iconst 1, 1) := by decide +kernel
theorem dX9_work_148 : decode cX9_work 148 = .ok (.lshl, 1) := by decide +kernel
theorem dX9_work_149 : decode cX9_work 149 = .ok (.aload_n 0, 1) := by decide +kernel
theorem dX9_work_150 : decode cX9_work 150 = .ok (.invokevirtual 54, 3) := by decide +kernel
theorem dX9_work_153 : decode cX9_work 153 = .ok (.ifCond .eq 7, 3) := by decide +kernel
theorem dX9_work_156 : decode cX9_work 156 = .ok (.iconst 1, 1) := by decide +kernel
theorem dX9_work_157 : decode cX9_work 157 = .ok (.goto 4, 3) := by decide +kernel
theorem dX9_work_160 : decode cX9_work 160 = .ok (.iconst 0, 1) := by decide +kernel
theorem dX9_work_161 : decode cX9_work 161 = .ok (.i2l, 1) := by decide +kernel
theorem dX9_work_162 : decode cX9_work 162 = .ok (.lor, 1) := by decide +kernel
theorem dX9_work_163 : decode cX9_work 163 = .ok (.lstore_n 3, 1) := by decide +kernel
theorem dX9_work_164 : decode cX9_work 164 = .ok (.iinc 5 1, 3) := by decide +kernel
theorem dX9_work_167 : decode cX9_work 167 = .ok (.goto (-33), 3) := by decide +kernel
theorem dX9_work_170 : decode cX9_work 170 = .ok (.lload_n 3, 1) := by decide +kernel
theorem dX9_work_171 : decode cX9_work 171 = .ok (.lreturn, 1) := by decide +kernel
abbrev mX9_doubleRest : ks_M := (RX9, cX9_doubleRest, 3, none, "doubleRest")
theorem dX9_doubleRest_0 : decode cX9_doubleRest 0 = .ok (.iconst 0, 1) := by decide +kernel
theorem dX9_doubleRest_1 : decode cX9_doubleRest 1 = .ok (.istore_n 1, 1) := by decide +kernel
theorem dX9_doubleRest_2 : decode cX9_doubleRest 2 = .ok (.iconst 0, 1) := by decide +kernel
theorem dX9_doubleRest_3 : decode cX9_doubleRest 3 = .ok (.istore_n 2, 1) := by decide +kernel
theorem dX9_doubleRest_4 : decode cX9_doubleRest 4 = .ok (.iload_n 2, 1) := by decide +kernel
theorem dX9_doubleRest_5 : decode cX9_doubleRest 5 = .ok (.bipush 34, 2) := by decide +kernel
theorem dX9_doubleRest_7 : decode cX9_doubleRest 7 = .ok (.if_icmp .ge 37, 3) := by decide +kernel
theorem dX9_doubleRest_10 : decode cX9_doubleRest 10 = .ok (.iload_n 1, 1) := by decide +kernel
theorem dX9_doubleRest_11 : decode cX9_doubleRest 11 = .ok (.iconst 2, 1) := by decide +kernel
theorem dX9_doubleRest_12 : decode cX9_doubleRest 12 = .ok (.aload_n 0, 1) := by decide +kernel
theorem dX9_doubleRest_13 : decode cX9_doubleRest 13 = .ok (.getfield 18, 3) := by decide +kernel
theorem dX9_doubleRest_16 : decode cX9_doubleRest 16 = .ok (.iload_n 2, 1) := by decide +kernel
theorem dX9_doubleRest_17 : decode cX9_doubleRest 17 = .ok (.baload, 1) := by decide +kernel
theorem dX9_doubleRest_18 : decode cX9_doubleRest 18 = .ok (.sipush 255, 3) := by decide +kernel
theorem dX9_doubleRest_21 : decode cX9_doubleRest 21 = .ok (.iand, 1) := by decide +kernel
theorem dX9_doubleRest_22 : decode cX9_doubleRest 22 = .ok (.imul, 1) := by decide +kernel
theorem dX9_doubleRest_23 : decode cX9_doubleRest 23 = .ok (.iadd, 1) := by decide +kernel
theorem dX9_doubleRest_24 : decode cX9_doubleRest 24 = .ok (.istore_n 1, 1) := by decide +kernel
theorem dX9_doubleRest_25 : decode cX9_doubleRest 25 = .ok (.aload_n 0, 1) := by decide +kernel
theorem dX9_doubleRest_26 : decode cX9_doubleRest 26 = .ok (.getfield 18, 3) := by decide +kernel
theorem dX9_doubleRest_29 : decode cX9_doubleRest 29 = .ok (.iload_n 2, 1) := by decide +kernel
theorem dX9_doubleRest_30 : decode cX9_doubleRest 30 = .ok (.iload_n 1, 1) := by decide +kernel
theorem dX9_doubleRest_31 : decode cX9_doubleRest 31 = .ok (.i2b, 1) := by decide +kernel
theorem dX9_doubleRest_32 : decode cX9_doubleRest 32 = .ok (.bastore, 1) := by decide +kernel
theorem dX9_doubleRest_33 : decode cX9_doubleRest 33 = .ok (.iload_n 1, 1) := by decide +kernel
theorem dX9_doubleRest_34 : decode cX9_doubleRest 34 = .ok (.bipush 8, 2) := by decide +kernel
theorem dX9_doubleRest_36 : decode cX9_doubleRest 36 = .ok (.ishr, 1) := by decide +kernel
theorem dX9_doubleRest_37 : decode cX9_doubleRest 37 = .ok (.istore_n 1, 1) := by decide +kernel
theorem dX9_doubleRest_38 : decode cX9_doubleRest 38 = .ok (.iinc 2 1, 3) := by decide +kernel
theorem dX9_doubleRest_41 : decode cX9_doubleRest 41 = .ok (.goto (-37), 3) := by decide +kernel
theorem dX9_doubleRest_44 : decode cX9_doubleRest 44 = .ok (.return_, 1) := by decide +kernel
abbrev mX9_takeOut : ks_M := (RX9, cX9_takeOut, 4, (some .boolean), "takeOut")
theorem dX9_takeOut_0 : decode cX9_takeOut 0 = .ok (.bipush 33, 2) := by decide +kernel
theorem dX9_takeOut_2 : decode cX9_takeOut 2 = .ok (.istore_n 1, 1) := by decide +kernel
theorem dX9_takeOut_3 : decode cX9_takeOut 3 = .ok (.iload_n 1, 1) := by decide +kernel
theorem dX9_takeOut_4 : decode cX9_takeOut 4 = .ok (.ifCond .le 24, 3) := by decide +kernel
theorem dX9_takeOut_7 : decode cX9_takeOut 7 = .ok (.aload_n 0, 1) := by decide +kernel
theorem dX9_takeOut_8 : decode cX9_takeOut 8 = .ok (.getfield 18, 3) := by decide +kernel
theorem dX9_takeOut_11 : decode cX9_takeOut 11 = .ok (.iload_n 1, 1) := by decide +kernel
theorem dX9_takeOut_12 : decode cX9_takeOut 12 = .ok (.baload, 1) := by decide +kernel
theorem dX9_takeOut_13 : decode cX9_takeOut 13 = .ok (.aload_n 0, 1) := by decide +kernel
theorem dX9_takeOut_14 : decode cX9_takeOut 14 = .ok (.getfield 15, 3) := by decide +kernel
theorem dX9_takeOut_17 : decode cX9_takeOut 17 = .ok (.iload_n 1, 1) := by decide +kernel
theorem dX9_takeOut_18 : decode cX9_takeOut 18 = .ok (.baload, 1) := by decide +kernel
theorem dX9_takeOut_19 : decode cX9_takeOut 19 = .ok (.if_icmp .ne 9, 3) := by decide +kernel
theorem dX9_takeOut_22 : decode cX9_takeOut 22 = .ok (.iinc 1 (-1), 3) := by decide +kernel
theorem dX9_takeOut_25 : decode cX9_takeOut 25 = .ok (.goto (-22), 3) := by decide +kernel
theorem dX9_takeOut_28 : decode cX9_takeOut 28 = .ok (.aload_n 0, 1) := by decide +kernel
theorem dX9_takeOut_29 : decode cX9_takeOut 29 = .ok (.getfield 18, 3) := by decide +kernel
theorem dX9_takeOut_32 : decode cX9_takeOut 32 = .ok (.iload_n 1, 1) := by decide +kernel
theorem dX9_takeOut_33 : decode cX9_takeOut 33 = .ok (.baload, 1) := by decide +kernel
theorem dX9_takeOut_34 : decode cX9_takeOut 34 = .ok (.sipush 255, 3) := by decide +kernel
theorem dX9_takeOut_37 : decode cX9_takeOut 37 = .ok (.iand, 1) := by decide +kernel
theorem dX9_takeOut_38 : decode cX9_takeOut 38 = .ok (.aload_n 0, 1) := by decide +kernel
theorem dX9_takeOut_39 : decode cX9_takeOut 39 = .ok (.getfield 15, 3) := by decide +kernel
theorem dX9_takeOut_42 : decode cX9_takeOut 42 = .ok (.iload_n 1, 1) := by decide +kernel
theorem dX9_takeOut_43 : decode cX9_takeOut 43 = .ok (.baload, 1) := by decide +kernel
theorem dX9_takeOut_44 : decode cX9_takeOut 44 = .ok (.sipush 255, 3) := by decide +kernel
theorem dX9_takeOut_47 : decode cX9_takeOut 47 = .ok (.iand, 1) := by decide +kernel
theorem dX9_takeOut_48 : decode cX9_takeOut 48 = .ok (.if_icmp .ge 5, 3) := by decide +kernel
theorem dX9_takeOut_51 : decode cX9_takeOut 51 = .ok (.iconst 0, 1) := by decide +kernel
theorem dX9_takeOut_52 : decode cX9_takeOut 52 = .ok (.ireturn, 1) := by decide +kernel
theorem dX9_takeOut_53 : decode cX9_takeOut 53 = .ok (.iconst 0, 1) := by decide +kernel
theorem dX9_takeOut_54 : decode cX9_takeOut 54 = .ok (.istore_n 2, 1) := by decide +kernel
theorem dX9_takeOut_55 : decode cX9_takeOut 55 = .ok (.iconst 0, 1) := by decide +kernel
theorem dX9_takeOut_56 : decode cX9_takeOut 56 = .ok (.istore_n 3, 1) := by decide +kernel
theorem dX9_takeOut_57 : decode cX9_takeOut 57 = .ok (.iload_n 3, 1) := by decide +kernel
theorem dX9_takeOut_58 : decode cX9_takeOut 58 = .ok (.bipush 34, 2) := by decide +kernel
theorem dX9_takeOut_60 : decode cX9_takeOut 60 = .ok (.if_icmp .ge 46, 3) := by decide +kernel
theorem dX9_takeOut_63 : decode cX9_takeOut 63 = .ok (.iload_n 2, 1) := by decide +kernel
theorem dX9_takeOut_64 : decode cX9_takeOut 64 = .ok (.aload_n 0, 1) := by decide +kernel
theorem dX9_takeOut_65 : decode cX9_takeOut 65 = .ok (.getfield 18, 3) := by decide +kernel
theorem dX9_takeOut_68 : decode cX9_takeOut 68 = .ok (.iload_n 3, 1) := by decide +kernel
theorem dX9_takeOut_69 : decode cX9_takeOut 69 = .ok (.baload, 1) := by decide +kernel
theorem dX9_takeOut_70 : decode cX9_takeOut 70 = .ok (.sipush 255, 3) := by decide +kernel
theorem dX9_takeOut_73 : decode cX9_takeOut 73 = .ok (.iand, 1) := by decide +kernel
theorem dX9_takeOut_74 : decode cX9_takeOut 74 = .ok (.aload_n 0, 1) := by decide +kernel
theorem dX9_takeOut_75 : decode cX9_takeOut 75 = .ok (.getfield 15, 3) := by decide +kernel
theorem dX9_takeOut_78 : decode cX9_takeOut 78 = .ok (.iload_n 3, 1) := by decide +kernel
theorem dX9_takeOut_79 : decode cX9_takeOut 79 = .ok (.baload, 1) := by decide +kernel
theorem dX9_takeOut_80 : decode cX9_takeOut 80 = .ok (.sipush 255, 3) := by decide +kernel
theorem dX9_takeOut_83 : decode cX9_takeOut 83 = .ok (.iand, 1) := by decide +kernel
theorem dX9_takeOut_84 : decode cX9_takeOut 84 = .ok (.isub, 1) := by decide +kernel
theorem dX9_takeOut_85 : decode cX9_takeOut 85 = .ok (.iadd, 1) := by decide +kernel
theorem dX9_takeOut_86 : decode cX9_takeOut 86 = .ok (.istore_n 2, 1) := by decide +kernel
theorem dX9_takeOut_87 : decode cX9_takeOut 87 = .ok (.aload_n 0, 1) := by decide +kernel
theorem dX9_takeOut_88 : decode cX9_takeOut 88 = .ok (.getfield 18, 3) := by decide +kernel
theorem dX9_takeOut_91 : decode cX9_takeOut 91 = .ok (.iload_n 3, 1) := by decide +kernel
theorem dX9_takeOut_92 : decode cX9_takeOut 92 = .ok (.iload_n 2, 1) := by decide +kernel
theorem dX9_takeOut_93 : decode cX9_takeOut 93 = .ok (.i2b, 1) := by decide +kernel
theorem dX9_takeOut_94 : decode cX9_takeOut 94 = .ok (.bastore, 1) := by decide +kernel
theorem dX9_takeOut_95 : decode cX9_takeOut 95 = .ok (.iload_n 2, 1) := by decide +kernel
theorem dX9_takeOut_96 : decode cX9_takeOut 96 = .ok (.bipush 8, 2) := by decide +kernel
theorem dX9_takeOut_98 : decode cX9_takeOut 98 = .ok (.ishr, 1) := by decide +kernel
theorem dX9_takeOut_99 : decode cX9_takeOut 99 = .ok (.istore_n 2, 1) := by decide +kernel
theorem dX9_takeOut_100 : decode cX9_takeOut 100 = .ok (.iinc 3 1, 3) := by decide +kernel
theorem dX9_takeOut_103 : decode cX9_takeOut 103 = .ok (.goto (-46), 3) := by decide +kernel
theorem dX9_takeOut_106 : decode cX9_takeOut 106 = .ok (.iconst 1, 1) := by decide +kernel
theorem dX9_takeOut_107 : decode cX9_takeOut 107 = .ok (.ireturn, 1) := by decide +kernel
abbrev mJ7_rangeCheck_23922 : ks_M := (RJ7, cJ7_rangeCheck_23922, 3, none, "rangeCheck")
theorem dJ7_rangeCheck_23922_0 : decode cJ7_rangeCheck_23922 0 = .ok (.iload_n 1, 1) := by decide +kernel
theorem dJ7_rangeCheck_23922_1 : decode cJ7_rangeCheck_23922 1 = .ok (.iload_n 2, 1) := by decide +kernel
theorem dJ7_rangeCheck_23922_2 : decode cJ7_rangeCheck_23922 2 = .ok (.if_icmp .le 44, 3) := by decide +kernel
theorem dJ7_rangeCheck_23922_5 : decode cJ7_rangeCheck_23922 5 = .ok (.new 43, 3) := by decide +kernel
theorem dJ7_rangeCheck_23922_8 : decode cJ7_rangeCheck_23922 8 = .ok (.dup, 1) := by decide +kernel
theorem dJ7_rangeCheck_23922_9 : decode cJ7_rangeCheck_23922 9 = .ok (.new 45, 3) := by decide +kernel
theorem dJ7_rangeCheck_23922_12 : decode cJ7_rangeCheck_23922 12 = .ok (.dup, 1) := by decide +kernel
theorem dJ7_rangeCheck_23922_13 : decode cJ7_rangeCheck_23922 13 = .ok (.invokespecial 47, 3) := by decide +kernel
theorem dJ7_rangeCheck_23922_16 : decode cJ7_rangeCheck_23922 16 = .ok (.ldc 48, 2) := by decide +kernel
theorem dJ7_rangeCheck_23922_18 : decode cJ7_rangeCheck_23922 18 = .ok (.invokevirtual 50, 3) := by decide +kernel
theorem dJ7_rangeCheck_23922_21 : decode cJ7_rangeCheck_23922 21 = .ok (.iload_n 1, 1) := by decide +kernel
theorem dJ7_rangeCheck_23922_22 : decode cJ7_rangeCheck_23922 22 = .ok (.invokevirtual 54, 3) := by decide +kernel
theorem dJ7_rangeCheck_23922_25 : decode cJ7_rangeCheck_23922 25 = .ok (.ldc 57, 2) := by decide +kernel
theorem dJ7_rangeCheck_23922_27 : decode cJ7_rangeCheck_23922 27 = .ok (.invokevirtual 50, 3) := by decide +kernel
theorem dJ7_rangeCheck_23922_30 : decode cJ7_rangeCheck_23922 30 = .ok (.iload_n 2, 1) := by decide +kernel
theorem dJ7_rangeCheck_23922_31 : decode cJ7_rangeCheck_23922 31 = .ok (.invokevirtual 54, 3) := by decide +kernel
theorem dJ7_rangeCheck_23922_34 : decode cJ7_rangeCheck_23922 34 = .ok (.ldc 59, 2) := by decide +kernel
theorem dJ7_rangeCheck_23922_36 : decode cJ7_rangeCheck_23922 36 = .ok (.invokevirtual 50, 3) := by decide +kernel
theorem dJ7_rangeCheck_23922_39 : decode cJ7_rangeCheck_23922 39 = .ok (.invokevirtual 61, 3) := by decide +kernel
theorem dJ7_rangeCheck_23922_42 : decode cJ7_rangeCheck_23922 42 = .ok (.invokespecial 65, 3) := by decide +kernel
theorem dJ7_rangeCheck_23922_45 : decode cJ7_rangeCheck_23922 45 = .ok (.athrow, 1) := by decide +kernel
theorem dJ7_rangeCheck_23922_46 : decode cJ7_rangeCheck_23922 46 = .ok (.iload_n 1, 1) := by decide +kernel
theorem dJ7_rangeCheck_23922_47 : decode cJ7_rangeCheck_23922 47 = .ok (.ifCond .ge 12, 3) := by decide +kernel
theorem dJ7_rangeCheck_23922_50 : decode cJ7_rangeCheck_23922 50 = .ok (.new 68, 3) := by decide +kernel
theorem dJ7_rangeCheck_23922_53 : decode cJ7_rangeCheck_23922 53 = .ok (.dup, 1) := by decide +kernel
theorem dJ7_rangeCheck_23922_54 : decode cJ7_rangeCheck_23922 54 = .ok (.iload_n 1, 1) := by decide +kernel
theorem dJ7_rangeCheck_23922_55 : decode cJ7_rangeCheck_23922 55 = .ok (.invokespecial 70, 3) := by decide +kernel
theorem dJ7_rangeCheck_23922_58 : decode cJ7_rangeCheck_23922 58 = .ok (.athrow, 1) := by decide +kernel
theorem dJ7_rangeCheck_23922_59 : decode cJ7_rangeCheck_23922 59 = .ok (.iload_n 2, 1) := by decide +kernel
theorem dJ7_rangeCheck_23922_60 : decode cJ7_rangeCheck_23922 60 = .ok (.iload_n 0, 1) := by decide +kernel
theorem dJ7_rangeCheck_23922_61 : decode cJ7_rangeCheck_23922 61 = .ok (.if_icmp .le 12, 3) := by decide +kernel
theorem dJ7_rangeCheck_23922_64 : decode cJ7_rangeCheck_23922 64 = .ok (.new 68, 3) := by decide +kernel
theorem dJ7_rangeCheck_23922_67 : decode cJ7_rangeCheck_23922 67 = .ok (.dup, 1) := by decide +kernel
theorem dJ7_rangeCheck_23922_68 : decode cJ7_rangeCheck_23922 68 = .ok (.iload_n 2, 1) := by decide +kernel
theorem dJ7_rangeCheck_23922_69 : decode cJ7_rangeCheck_23922 69 = .ok (.invokespecial 70, 3) := by decide +kernel
theorem dJ7_rangeCheck_23922_72 : decode cJ7_rangeCheck_23922 72 = .ok (.athrow, 1) := by decide +kernel
theorem dJ7_rangeCheck_23922_73 : decode cJ7_rangeCheck_23922 73 = .ok (.return_, 1) := by decide +kernel
abbrev mJ7_fill_bad5a : ks_M := (RJ7, cJ7_fill_bad5a, 6, none, "fill")
theorem dJ7_fill_bad5a_0 : decode cJ7_fill_bad5a 0 = .ok (.aload_n 0, 1) := by decide +kernel
theorem dJ7_fill_bad5a_1 : decode cJ7_fill_bad5a 1 = .ok (.arraylength, 1) := by decide +kernel
theorem dJ7_fill_bad5a_2 : decode cJ7_fill_bad5a 2 = .ok (.iload_n 1, 1) := by decide +kernel
theorem dJ7_fill_bad5a_3 : decode cJ7_fill_bad5a 3 = .ok (.iload_n 2, 1) := by decide +kernel
theorem dJ7_fill_bad5a_4 : decode cJ7_fill_bad5a 4 = .ok (.invokestatic 13, 3) := by decide +kernel
theorem dJ7_fill_bad5a_7 : decode cJ7_fill_bad5a 7 = .ok (.iload_n 1, 1) := by decide +kernel
theorem dJ7_fill_bad5a_8 : decode cJ7_fill_bad5a 8 = .ok (.istore 5, 2) := by decide +kernel
theorem dJ7_fill_bad5a_10 : decode cJ7_fill_bad5a 10 = .ok (.iload 5, 2) := by decide +kernel
theorem dJ7_fill_bad5a_12 : decode cJ7_fill_bad5a 12 = .ok (.iload_n 2, 1) := by decide +kernel
theorem dJ7_fill_bad5a_13 : decode cJ7_fill_bad5a 13 = .ok (.if_icmp .ge 14, 3) := by decide +kernel
theorem dJ7_fill_bad5a_16 : decode cJ7_fill_bad5a 16 = .ok (.aload_n 0, 1) := by decide +kernel
theorem dJ7_fill_bad5a_17 : decode cJ7_fill_bad5a 17 = .ok (.iload 5, 2) := by decide +kernel
theorem dJ7_fill_bad5a_19 : decode cJ7_fill_bad5a 19 = .ok (.lload_n 3, 1) := by decide +kernel
theorem dJ7_fill_bad5a_20 : decode cJ7_fill_bad5a 20 = .ok (.lastore, 1) := by decide +kernel
theorem dJ7_fill_bad5a_21 : decode cJ7_fill_bad5a 21 = .ok (.iinc 5 1, 3) := by decide +kernel
theorem dJ7_fill_bad5a_24 : decode cJ7_fill_bad5a 24 = .ok (.goto (-14), 3) := by decide +kernel
theorem dJ7_fill_bad5a_27 : decode cJ7_fill_bad5a 27 = .ok (.return_, 1) := by decide +kernel
abbrev mJ7_fill_031fb : ks_M := (RJ7, cJ7_fill_031fb, 4, none, "fill")
theorem dJ7_fill_031fb_0 : decode cJ7_fill_031fb 0 = .ok (.iconst 0, 1) := by decide +kernel
theorem dJ7_fill_031fb_1 : decode cJ7_fill_031fb 1 = .ok (.istore_n 2, 1) := by decide +kernel
theorem dJ7_fill_031fb_2 : decode cJ7_fill_031fb 2 = .ok (.aload_n 0, 1) := by decide +kernel
theorem dJ7_fill_031fb_3 : decode cJ7_fill_031fb 3 = .ok (.arraylength, 1) := by decide +kernel
theorem dJ7_fill_031fb_4 : decode cJ7_fill_031fb 4 = .ok (.istore_n 3, 1) := by decide +kernel
theorem dJ7_fill_031fb_5 : decode cJ7_fill_031fb 5 = .ok (.iload_n 2, 1) := by decide +kernel
theorem dJ7_fill_031fb_6 : decode cJ7_fill_031fb 6 = .ok (.iload_n 3, 1) := by decide +kernel
theorem dJ7_fill_031fb_7 : decode cJ7_fill_031fb 7 = .ok (.if_icmp .ge 13, 3) := by decide +kernel
theorem dJ7_fill_031fb_10 : decode cJ7_fill_031fb 10 = .ok (.aload_n 0, 1) := by decide +kernel
theorem dJ7_fill_031fb_11 : decode cJ7_fill_031fb 11 = .ok (.iload_n 2, 1) := by decide +kernel
theorem dJ7_fill_031fb_12 : decode cJ7_fill_031fb 12 = .ok (.iload_n 1, 1) := by decide +kernel
theorem dJ7_fill_031fb_13 : decode cJ7_fill_031fb 13 = .ok (.bastore, 1) := by decide +kernel
theorem dJ7_fill_031fb_14 : decode cJ7_fill_031fb 14 = .ok (.iinc 2 1, 3) := by decide +kernel
theorem dJ7_fill_031fb_17 : decode cJ7_fill_031fb 17 = .ok (.goto (-12), 3) := by decide +kernel
theorem dJ7_fill_031fb_20 : decode cJ7_fill_031fb 20 = .ok (.return_, 1) := by decide +kernel
abbrev mJ7_fill_eb02e : ks_M := (RJ7, cJ7_fill_eb02e, 5, none, "fill")
theorem dJ7_fill_eb02e_0 : decode cJ7_fill_eb02e 0 = .ok (.aload_n 0, 1) := by decide +kernel
theorem dJ7_fill_eb02e_1 : decode cJ7_fill_eb02e 1 = .ok (.arraylength, 1) := by decide +kernel
theorem dJ7_fill_eb02e_2 : decode cJ7_fill_eb02e 2 = .ok (.iload_n 1, 1) := by decide +kernel
theorem dJ7_fill_eb02e_3 : decode cJ7_fill_eb02e 3 = .ok (.iload_n 2, 1) := by decide +kernel
theorem dJ7_fill_eb02e_4 : decode cJ7_fill_eb02e 4 = .ok (.invokestatic 13, 3) := by decide +kernel
theorem dJ7_fill_eb02e_7 : decode cJ7_fill_eb02e 7 = .ok (.iload_n 1, 1) := by decide +kernel
theorem dJ7_fill_eb02e_8 : decode cJ7_fill_eb02e 8 = .ok (.istore 4, 2) := by decide +kernel
theorem dJ7_fill_eb02e_10 : decode cJ7_fill_eb02e 10 = .ok (.iload 4, 2) := by decide +kernel
theorem dJ7_fill_eb02e_12 : decode cJ7_fill_eb02e 12 = .ok (.iload_n 2, 1) := by decide +kernel
theorem dJ7_fill_eb02e_13 : decode cJ7_fill_eb02e 13 = .ok (.if_icmp .ge 14, 3) := by decide +kernel
theorem dJ7_fill_eb02e_16 : decode cJ7_fill_eb02e 16 = .ok (.aload_n 0, 1) := by decide +kernel
theorem dJ7_fill_eb02e_17 : decode cJ7_fill_eb02e 17 = .ok (.iload 4, 2) := by decide +kernel
theorem dJ7_fill_eb02e_19 : decode cJ7_fill_eb02e 19 = .ok (.iload_n 3, 1) := by decide +kernel
theorem dJ7_fill_eb02e_20 : decode cJ7_fill_eb02e 20 = .ok (.bastore, 1) := by decide +kernel
theorem dJ7_fill_eb02e_21 : decode cJ7_fill_eb02e 21 = .ok (.iinc 4 1, 3) := by decide +kernel
theorem dJ7_fill_eb02e_24 : decode cJ7_fill_eb02e 24 = .ok (.goto (-14), 3) := by decide +kernel
theorem dJ7_fill_eb02e_27 : decode cJ7_fill_eb02e 27 = .ok (.return_, 1) := by decide +kernel
abbrev mJ7_copyOf_9075b : ks_M := (RJ7, cJ7_copyOf_9075b, 3, (some (.array .byte)), "copyOf")
theorem dJ7_copyOf_9075b_0 : decode cJ7_copyOf_9075b 0 = .ok (.iload_n 1, 1) := by decide +kernel
theorem dJ7_copyOf_9075b_1 : decode cJ7_copyOf_9075b 1 = .ok (.aload_n 0, 1) := by decide +kernel
theorem dJ7_copyOf_9075b_2 : decode cJ7_copyOf_9075b 2 = .ok (.arraylength, 1) := by decide +kernel
theorem dJ7_copyOf_9075b_3 : decode cJ7_copyOf_9075b 3 = .ok (.if_icmp .ne 11, 3) := by decide +kernel
theorem dJ7_copyOf_9075b_6 : decode cJ7_copyOf_9075b 6 = .ok (.aload_n 0, 1) := by decide +kernel
theorem dJ7_copyOf_9075b_7 : decode cJ7_copyOf_9075b 7 = .ok (.invokevirtual 310, 3) := by decide +kernel
theorem dJ7_copyOf_9075b_10 : decode cJ7_copyOf_9075b 10 = .ok (.checkcast 311, 3) := by decide +kernel
theorem dJ7_copyOf_9075b_13 : decode cJ7_copyOf_9075b 13 = .ok (.areturn, 1) := by decide +kernel
theorem dJ7_copyOf_9075b_14 : decode cJ7_copyOf_9075b 14 = .ok (.iload_n 1, 1) := by decide +kernel
theorem dJ7_copyOf_9075b_15 : decode cJ7_copyOf_9075b 15 = .ok (.newarray .byte, 2) := by decide +kernel
theorem dJ7_copyOf_9075b_17 : decode cJ7_copyOf_9075b 17 = .ok (.astore_n 2, 1) := by decide +kernel
theorem dJ7_copyOf_9075b_18 : decode cJ7_copyOf_9075b 18 = .ok (.aload_n 0, 1) := by decide +kernel
theorem dJ7_copyOf_9075b_19 : decode cJ7_copyOf_9075b 19 = .ok (.iconst 0, 1) := by decide +kernel
theorem dJ7_copyOf_9075b_20 : decode cJ7_copyOf_9075b 20 = .ok (.aload_n 2, 1) := by decide +kernel
theorem dJ7_copyOf_9075b_21 : decode cJ7_copyOf_9075b 21 = .ok (.iconst 0, 1) := by decide +kernel
theorem dJ7_copyOf_9075b_22 : decode cJ7_copyOf_9075b 22 = .ok (.aload_n 0, 1) := by decide +kernel
theorem dJ7_copyOf_9075b_23 : decode cJ7_copyOf_9075b 23 = .ok (.arraylength, 1) := by decide +kernel
theorem dJ7_copyOf_9075b_24 : decode cJ7_copyOf_9075b 24 = .ok (.iload_n 1, 1) := by decide +kernel
theorem dJ7_copyOf_9075b_25 : decode cJ7_copyOf_9075b 25 = .ok (.invokestatic 304, 3) := by decide +kernel
theorem dJ7_copyOf_9075b_28 : decode cJ7_copyOf_9075b 28 = .ok (.invokestatic 150, 3) := by decide +kernel
theorem dJ7_copyOf_9075b_31 : decode cJ7_copyOf_9075b 31 = .ok (.aload_n 2, 1) := by decide +kernel
theorem dJ7_copyOf_9075b_32 : decode cJ7_copyOf_9075b 32 = .ok (.areturn, 1) := by decide +kernel
abbrev mJ7_copyOf_59c91 : ks_M := (RJ7, cJ7_copyOf_59c91, 3, (some (.array .int)), "copyOf")
theorem dJ7_copyOf_59c91_0 : decode cJ7_copyOf_59c91 0 = .ok (.iload_n 1, 1) := by decide +kernel
theorem dJ7_copyOf_59c91_1 : decode cJ7_copyOf_59c91 1 = .ok (.aload_n 0, 1) := by decide +kernel
theorem dJ7_copyOf_59c91_2 : decode cJ7_copyOf_59c91 2 = .ok (.arraylength, 1) := by decide +kernel
theorem dJ7_copyOf_59c91_3 : decode cJ7_copyOf_59c91 3 = .ok (.if_icmp .ne 11, 3) := by decide +kernel
theorem dJ7_copyOf_59c91_6 : decode cJ7_copyOf_59c91 6 = .ok (.aload_n 0, 1) := by decide +kernel
theorem dJ7_copyOf_59c91_7 : decode cJ7_copyOf_59c91 7 = .ok (.invokevirtual 316, 3) := by decide +kernel
theorem dJ7_copyOf_59c91_10 : decode cJ7_copyOf_59c91 10 = .ok (.checkcast 317, 3) := by decide +kernel
theorem dJ7_copyOf_59c91_13 : decode cJ7_copyOf_59c91 13 = .ok (.areturn, 1) := by decide +kernel
theorem dJ7_copyOf_59c91_14 : decode cJ7_copyOf_59c91 14 = .ok (.iload_n 1, 1) := by decide +kernel
theorem dJ7_copyOf_59c91_15 : decode cJ7_copyOf_59c91 15 = .ok (.newarray .int, 2) := by decide +kernel
theorem dJ7_copyOf_59c91_17 : decode cJ7_copyOf_59c91 17 = .ok (.astore_n 2, 1) := by decide +kernel
theorem dJ7_copyOf_59c91_18 : decode cJ7_copyOf_59c91 18 = .ok (.aload_n 0, 1) := by decide +kernel
theorem dJ7_copyOf_59c91_19 : decode cJ7_copyOf_59c91 19 = .ok (.iconst 0, 1) := by decide +kernel
theorem dJ7_copyOf_59c91_20 : decode cJ7_copyOf_59c91 20 = .ok (.aload_n 2, 1) := by decide +kernel
theorem dJ7_copyOf_59c91_21 : decode cJ7_copyOf_59c91 21 = .ok (.iconst 0, 1) := by decide +kernel
theorem dJ7_copyOf_59c91_22 : decode cJ7_copyOf_59c91 22 = .ok (.aload_n 0, 1) := by decide +kernel
theorem dJ7_copyOf_59c91_23 : decode cJ7_copyOf_59c91 23 = .ok (.arraylength, 1) := by decide +kernel
theorem dJ7_copyOf_59c91_24 : decode cJ7_copyOf_59c91 24 = .ok (.iload_n 1, 1) := by decide +kernel
theorem dJ7_copyOf_59c91_25 : decode cJ7_copyOf_59c91 25 = .ok (.invokestatic 304, 3) := by decide +kernel
theorem dJ7_copyOf_59c91_28 : decode cJ7_copyOf_59c91 28 = .ok (.invokestatic 150, 3) := by decide +kernel
theorem dJ7_copyOf_59c91_31 : decode cJ7_copyOf_59c91 31 = .ok (.aload_n 2, 1) := by decide +kernel
theorem dJ7_copyOf_59c91_32 : decode cJ7_copyOf_59c91 32 = .ok (.areturn, 1) := by decide +kernel
abbrev mJ7_checkLength_df160 : ks_M := (RJ7, cJ7_checkLength_df160, 2, none, "checkLength")
theorem dJ7_checkLength_df160_0 : decode cJ7_checkLength_df160 0 = .ok (.iload_n 1, 1) := by decide +kernel
theorem dJ7_checkLength_df160_1 : decode cJ7_checkLength_df160 1 = .ok (.iload_n 0, 1) := by decide +kernel
theorem dJ7_checkLength_df160_2 : decode cJ7_checkLength_df160 2 = .ok (.if_icmp .ge 35, 3) := by decide +kernel
theorem dJ7_checkLength_df160_5 : decode cJ7_checkLength_df160 5 = .ok (.new 43, 3) := by decide +kernel
theorem dJ7_checkLength_df160_8 : decode cJ7_checkLength_df160 8 = .ok (.dup, 1) := by decide +kernel
theorem dJ7_checkLength_df160_9 : decode cJ7_checkLength_df160 9 = .ok (.new 45, 3) := by decide +kernel
theorem dJ7_checkLength_df160_12 : decode cJ7_checkLength_df160 12 = .ok (.dup, 1) := by decide +kernel
theorem dJ7_checkLength_df160_13 : decode cJ7_checkLength_df160 13 = .ok (.invokespecial 47, 3) := by decide +kernel
theorem dJ7_checkLength_df160_16 : decode cJ7_checkLength_df160 16 = .ok (.iload_n 0, 1) := by decide +kernel
theorem dJ7_checkLength_df160_17 : decode cJ7_checkLength_df160 17 = .ok (.invokevirtual 54, 3) := by decide +kernel
theorem dJ7_checkLength_df160_20 : decode cJ7_checkLength_df160 20 = .ok (.ldc_w 337, 3) := by decide +kernel
theorem dJ7_checkLength_df160_23 : decode cJ7_checkLength_df160 23 = .ok (.invokevirtual 50, 3) := by decide +kernel
theorem dJ7_checkLength_df160_26 : decode cJ7_checkLength_df160 26 = .ok (.iload_n 1, 1) := by decide +kernel
theorem dJ7_checkLength_df160_27 : decode cJ7_checkLength_df160 27 = .ok (.invokevirtual 54, 3) := by decide +kernel
theorem dJ7_checkLength_df160_30 : decode cJ7_checkLength_df160 30 = .ok (.invokevirtual 61, 3) := by decide +kernel
theorem dJ7_checkLength_df160_33 : decode cJ7_checkLength_df160 33 = .ok (.invokespecial 65, 3) := by decide +kernel
theorem dJ7_checkLength_df160_36 : decode cJ7_checkLength_df160 36 = .ok (.athrow, 1) := by decide +kernel
theorem dJ7_checkLength_df160_37 : decode cJ7_checkLength_df160 37 = .ok (.return_, 1) := by decide +kernel
abbrev mJ7_copyOfRange_39247 : ks_M := (RJ7, cJ7_copyOfRange_39247, 3, (some (.array .byte)), "copyOfRange")
theorem dJ7_copyOfRange_39247_0 : decode cJ7_copyOfRange_39247 0 = .ok (.iload_n 1, 1) := by decide +kernel
theorem dJ7_copyOfRange_39247_1 : decode cJ7_copyOfRange_39247 1 = .ok (.ifCond .ne 9, 3) := by decide +kernel
theorem dJ7_copyOfRange_39247_4 : decode cJ7_copyOfRange_39247 4 = .ok (.iload_n 2, 1) := by decide +kernel
theorem dJ7_copyOfRange_39247_5 : decode cJ7_copyOfRange_39247 5 = .ok (.aload_n 0, 1) := by decide +kernel
theorem dJ7_copyOfRange_39247_6 : decode cJ7_copyOfRange_39247 6 = .ok (.arraylength, 1) := by decide +kernel
theorem dJ7_copyOfRange_39247_7 : decode cJ7_copyOfRange_39247 7 = .ok (.if_icmp .eq 10, 3) := by decide +kernel
theorem dJ7_copyOfRange_39247_10 : decode cJ7_copyOfRange_39247 10 = .ok (.aload_n 0, 1) := by decide +kernel
theorem dJ7_copyOfRange_39247_11 : decode cJ7_copyOfRange_39247 11 = .ok (.iload_n 1, 1) := by decide +kernel
theorem dJ7_copyOfRange_39247_12 : decode cJ7_copyOfRange_39247 12 = .ok (.iload_n 2, 1) := by decide +kernel
theorem dJ7_copyOfRange_39247_13 : decode cJ7_copyOfRange_39247 13 = .ok (.invokestatic 339, 3) := by decide +kernel
theorem dJ7_copyOfRange_39247_16 : decode cJ7_copyOfRange_39247 16 = .ok (.areturn, 1) := by decide +kernel
theorem dJ7_copyOfRange_39247_17 : decode cJ7_copyOfRange_39247 17 = .ok (.aload_n 0, 1) := by decide +kernel
theorem dJ7_copyOfRange_39247_18 : decode cJ7_copyOfRange_39247 18 = .ok (.invokevirtual 310, 3) := by decide +kernel
theorem dJ7_copyOfRange_39247_21 : decode cJ7_copyOfRange_39247 21 = .ok (.checkcast 311, 3) := by decide +kernel
theorem dJ7_copyOfRange_39247_24 : decode cJ7_copyOfRange_39247 24 = .ok (.areturn, 1) := by decide +kernel
abbrev mJ7_copyOfRangeByte_39247 : ks_M := (RJ7, cJ7_copyOfRangeByte_39247, 5, (some (.array .byte)), "copyOfRangeByte")
theorem dJ7_copyOfRangeByte_39247_0 : decode cJ7_copyOfRangeByte_39247 0 = .ok (.iload_n 1, 1) := by decide +kernel
theorem dJ7_copyOfRangeByte_39247_1 : decode cJ7_copyOfRangeByte_39247 1 = .ok (.iload_n 2, 1) := by decide +kernel
theorem dJ7_copyOfRangeByte_39247_2 : decode cJ7_copyOfRangeByte_39247 2 = .ok (.invokestatic 343, 3) := by decide +kernel
theorem dJ7_copyOfRangeByte_39247_5 : decode cJ7_copyOfRangeByte_39247 5 = .ok (.iload_n 2, 1) := by decide +kernel
theorem dJ7_copyOfRangeByte_39247_6 : decode cJ7_copyOfRangeByte_39247 6 = .ok (.iload_n 1, 1) := by decide +kernel
theorem dJ7_copyOfRangeByte_39247_7 : decode cJ7_copyOfRangeByte_39247 7 = .ok (.isub, 1) := by decide +kernel
theorem dJ7_copyOfRangeByte_39247_8 : decode cJ7_copyOfRangeByte_39247 8 = .ok (.istore_n 3, 1) := by decide +kernel
theorem dJ7_copyOfRangeByte_39247_9 : decode cJ7_copyOfRangeByte_39247 9 = .ok (.iload_n 3, 1) := by decide +kernel
theorem dJ7_copyOfRangeByte_39247_10 : decode cJ7_copyOfRangeByte_39247 10 = .ok (.newarray .byte, 2) := by decide +kernel
theorem dJ7_copyOfRangeByte_39247_12 : decode cJ7_copyOfRangeByte_39247 12 = .ok (.astore 4, 2) := by decide +kernel
theorem dJ7_copyOfRangeByte_39247_14 : decode cJ7_copyOfRangeByte_39247 14 = .ok (.aload_n 0, 1) := by decide +kernel
theorem dJ7_copyOfRangeByte_39247_15 : decode cJ7_copyOfRangeByte_39247 15 = .ok (.iload_n 1, 1) := by decide +kernel
theorem dJ7_copyOfRangeByte_39247_16 : decode cJ7_copyOfRangeByte_39247 16 = .ok (.aload 4, 2) := by decide +kernel
theorem dJ7_copyOfRangeByte_39247_18 : decode cJ7_copyOfRangeByte_39247 18 = .ok (.iconst 0, 1) := by decide +kernel
theorem dJ7_copyOfRangeByte_39247_19 : decode cJ7_copyOfRangeByte_39247 19 = .ok (.aload_n 0, 1) := by decide +kernel
theorem dJ7_copyOfRangeByte_39247_20 : decode cJ7_copyOfRangeByte_39247 20 = .ok (.arraylength, 1) := by decide +kernel
theorem dJ7_copyOfRangeByte_39247_21 : decode cJ7_copyOfRangeByte_39247 21 = .ok (.iload_n 1, 1) := by decide +kernel
theorem dJ7_copyOfRangeByte_39247_22 : decode cJ7_copyOfRangeByte_39247 22 = .ok (.isub, 1) := by decide +kernel
theorem dJ7_copyOfRangeByte_39247_23 : decode cJ7_copyOfRangeByte_39247 23 = .ok (.iload_n 3, 1) := by decide +kernel
theorem dJ7_copyOfRangeByte_39247_24 : decode cJ7_copyOfRangeByte_39247 24 = .ok (.invokestatic 304, 3) := by decide +kernel
theorem dJ7_copyOfRangeByte_39247_27 : decode cJ7_copyOfRangeByte_39247 27 = .ok (.invokestatic 150, 3) := by decide +kernel
theorem dJ7_copyOfRangeByte_39247_30 : decode cJ7_copyOfRangeByte_39247 30 = .ok (.aload 4, 2) := by decide +kernel
theorem dJ7_copyOfRangeByte_39247_32 : decode cJ7_copyOfRangeByte_39247 32 = .ok (.areturn, 1) := by decide +kernel
abbrev mJ9_max_7cf53 : ks_M := (RJ9, cJ9_max_7cf53, 2, (some .int), "max")
theorem dJ9_max_7cf53_0 : decode cJ9_max_7cf53 0 = .ok (.iload_n 0, 1) := by decide +kernel
theorem dJ9_max_7cf53_1 : decode cJ9_max_7cf53 1 = .ok (.iload_n 1, 1) := by decide +kernel
theorem dJ9_max_7cf53_2 : decode cJ9_max_7cf53 2 = .ok (.if_icmp .lt 7, 3) := by decide +kernel
theorem dJ9_max_7cf53_5 : decode cJ9_max_7cf53 5 = .ok (.iload_n 0, 1) := by decide +kernel
theorem dJ9_max_7cf53_6 : decode cJ9_max_7cf53 6 = .ok (.goto 4, 3) := by decide +kernel
theorem dJ9_max_7cf53_9 : decode cJ9_max_7cf53 9 = .ok (.iload_n 1, 1) := by decide +kernel
theorem dJ9_max_7cf53_10 : decode cJ9_max_7cf53 10 = .ok (.ireturn, 1) := by decide +kernel
abbrev mJ9_max_f86c9 : ks_M := (RJ9, cJ9_max_f86c9, 4, (some .long), "max")
theorem dJ9_max_f86c9_0 : decode cJ9_max_f86c9 0 = .ok (.lload_n 0, 1) := by decide +kernel
theorem dJ9_max_f86c9_1 : decode cJ9_max_f86c9 1 = .ok (.lload_n 2, 1) := by decide +kernel
theorem dJ9_max_f86c9_2 : decode cJ9_max_f86c9 2 = .ok (.lcmp, 1) := by decide +kernel
theorem dJ9_max_f86c9_3 : decode cJ9_max_f86c9 3 = .ok (.ifCond .lt 7, 3) := by decide +kernel
theorem dJ9_max_f86c9_6 : decode cJ9_max_f86c9 6 = .ok (.lload_n 0, 1) := by decide +kernel
theorem dJ9_max_f86c9_7 : decode cJ9_max_f86c9 7 = .ok (.goto 4, 3) := by decide +kernel
theorem dJ9_max_f86c9_10 : decode cJ9_max_f86c9 10 = .ok (.lload_n 2, 1) := by decide +kernel
theorem dJ9_max_f86c9_11 : decode cJ9_max_f86c9 11 = .ok (.lreturn, 1) := by decide +kernel
abbrev mJ9_min_7cf53 : ks_M := (RJ9, cJ9_min_7cf53, 2, (some .int), "min")
theorem dJ9_min_7cf53_0 : decode cJ9_min_7cf53 0 = .ok (.iload_n 0, 1) := by decide +kernel
theorem dJ9_min_7cf53_1 : decode cJ9_min_7cf53 1 = .ok (.iload_n 1, 1) := by decide +kernel
theorem dJ9_min_7cf53_2 : decode cJ9_min_7cf53 2 = .ok (.if_icmp .gt 7, 3) := by decide +kernel
theorem dJ9_min_7cf53_5 : decode cJ9_min_7cf53 5 = .ok (.iload_n 0, 1) := by decide +kernel
theorem dJ9_min_7cf53_6 : decode cJ9_min_7cf53 6 = .ok (.goto 4, 3) := by decide +kernel
theorem dJ9_min_7cf53_9 : decode cJ9_min_7cf53 9 = .ok (.iload_n 1, 1) := by decide +kernel
theorem dJ9_min_7cf53_10 : decode cJ9_min_7cf53 10 = .ok (.ireturn, 1) := by decide +kernel
abbrev mJ9_min_f86c9 : ks_M := (RJ9, cJ9_min_f86c9, 4, (some .long), "min")
theorem dJ9_min_f86c9_0 : decode cJ9_min_f86c9 0 = .ok (.lload_n 0, 1) := by decide +kernel
theorem dJ9_min_f86c9_1 : decode cJ9_min_f86c9 1 = .ok (.lload_n 2, 1) := by decide +kernel
theorem dJ9_min_f86c9_2 : decode cJ9_min_f86c9 2 = .ok (.lcmp, 1) := by decide +kernel
theorem dJ9_min_f86c9_3 : decode cJ9_min_f86c9 3 = .ok (.ifCond .gt 7, 3) := by decide +kernel
theorem dJ9_min_f86c9_6 : decode cJ9_min_f86c9 6 = .ok (.lload_n 0, 1) := by decide +kernel
theorem dJ9_min_f86c9_7 : decode cJ9_min_f86c9 7 = .ok (.goto 4, 3) := by decide +kernel
theorem dJ9_min_f86c9_10 : decode cJ9_min_f86c9 10 = .ok (.lload_n 2, 1) := by decide +kernel
theorem dJ9_min_f86c9_11 : decode cJ9_min_f86c9 11 = .ok (.lreturn, 1) := by decide +kernel
theorem kx_2 : (Jvm.Cond.initialized "CoinJudge$Buffer") ∈ lw_tbl := List.mem_append_right _ (List.mem_of_getElem? (i := 2) (by decide +kernel))
theorem kx_3 : (Jvm.Cond.initialized "CoinJudge$Hasher") ∈ lw_tbl := List.mem_append_right _ (List.mem_of_getElem? (i := 3) (by decide +kernel))
theorem kx_6 : (Jvm.Cond.initialized "java/util/Arrays") ∈ lw_tbl := List.mem_append_right _ (List.mem_of_getElem? (i := 6) (by decide +kernel))
theorem kx_10 : (Jvm.Cond.initialized "java/lang/IllegalArgumentException") ∈ lw_tbl := List.mem_append_right _ (List.mem_of_getElem? (i := 10) (by decide +kernel))
theorem kx_12 : (Jvm.Cond.initialized "java/lang/StringBuilder") ∈ lw_tbl := List.mem_append_right _ (List.mem_of_getElem? (i := 12) (by decide +kernel))
theorem kx_16 : (Jvm.Cond.initialized "java/lang/Math") ∈ lw_tbl := List.mem_append_right _ (List.mem_of_getElem? (i := 16) (by decide +kernel))
theorem kx_17 : (Jvm.Cond.initialized "java/lang/System") ∈ lw_tbl := List.mem_append_right _ (List.mem_of_getElem? (i := 17) (by decide +kernel))
theorem kx_22 : (Jvm.Cond.initialized "java/lang/ArrayIndexOutOfBoundsException") ∈ lw_tbl := List.mem_append_right _ (List.mem_of_getElem? (i := 22) (by decide +kernel))
theorem kx_27 : (Jvm.Cond.initialized "CoinJudge$Target") ∈ lw_tbl := List.mem_append_right _ (List.mem_of_getElem? (i := 27) (by decide +kernel))
theorem kx_43 : (Jvm.Cond.instanceMethod ({ cls := "java/lang/Object", name := "<init>", desc := "()V" } : Jvm.MethodName)) ∈ lw_tbl := List.mem_append_right _ (List.mem_of_getElem? (i := 43) (by decide +kernel))
theorem kx_44 : (Jvm.Cond.code ({ cls := "java/lang/Object", name := "<init>", desc := "()V" } : Jvm.MethodName) object_method_1_code (1 : Nat) (Option.none : Option Jvm.ClassFile.FieldType)) ∈ lw_tbl := List.mem_append_right _ (List.mem_of_getElem? (i := 44) (by decide +kernel))
theorem kx_49 : (Jvm.Cond.code ({ cls := "CoinJudge$Buffer", name := "<init>", desc := "(I)V" } : Jvm.MethodName) prog_3_method_1_code (2 : Nat) (Option.none : Option Jvm.ClassFile.FieldType)) ∈ lw_tbl := List.mem_append_right _ (List.mem_of_getElem? (i := 49) (by decide +kernel))
theorem kx_50 : (Jvm.Cond.methodLink "CoinJudge$Buffer" (1 : Nat) ({ cls := "java/lang/Object", name := "<init>", desc := "()V" } : Jvm.MethodName)) ∈ lw_tbl := List.mem_append_right _ (List.mem_of_getElem? (i := 50) (by decide +kernel))
theorem kx_51 : (Jvm.Cond.fieldLink "CoinJudge$Buffer" (7 : Nat) "CoinJudge$Buffer" "bytes" "[B") ∈ lw_tbl := List.mem_append_right _ (List.mem_of_getElem? (i := 51) (by decide +kernel))
theorem kx_60 : (Jvm.Cond.fieldLink "CoinJudge$Buffer" (13 : Nat) "CoinJudge$Buffer" "length" "I") ∈ lw_tbl := List.mem_append_right _ (List.mem_of_getElem? (i := 60) (by decide +kernel))
theorem kx_65 : (Jvm.Cond.fieldLink "CoinJudge$Buffer" (17 : Nat) "CoinJudge$Buffer" "over" "Z") ∈ lw_tbl := List.mem_append_right _ (List.mem_of_getElem? (i := 65) (by decide +kernel))
theorem kx_74 : (Jvm.Cond.arrayClass Jvm.ClassFile.FieldType.byte) ∈ lw_tbl := List.mem_append_right _ (List.mem_of_getElem? (i := 74) (by decide +kernel))
theorem kx_79 : (Jvm.Cond.code ({ cls := "CoinJudge$Hasher", name := "<init>", desc := "()V" } : Jvm.MethodName) prog_8_method_1_code (1 : Nat) (Option.none : Option Jvm.ClassFile.FieldType)) ∈ lw_tbl := List.mem_append_right _ (List.mem_of_getElem? (i := 79) (by decide +kernel))
theorem kx_80 : (Jvm.Cond.methodLink "CoinJudge$Hasher" (3 : Nat) ({ cls := "java/lang/Object", name := "<init>", desc := "()V" } : Jvm.MethodName)) ∈ lw_tbl := List.mem_append_right _ (List.mem_of_getElem? (i := 80) (by decide +kernel))
theorem kx_81 : (Jvm.Cond.fieldLink "CoinJudge$Hasher" (9 : Nat) "CoinJudge$Hasher" "state" "[I") ∈ lw_tbl := List.mem_append_right _ (List.mem_of_getElem? (i := 81) (by decide +kernel))
theorem kx_82 : (Jvm.Cond.fieldLink "CoinJudge$Hasher" (15 : Nat) "CoinJudge$Hasher" "words" "[I") ∈ lw_tbl := List.mem_append_right _ (List.mem_of_getElem? (i := 82) (by decide +kernel))
theorem kx_83 : (Jvm.Cond.fieldLink "CoinJudge$Hasher" (18 : Nat) "CoinJudge$Hasher" "sides" "[I") ∈ lw_tbl := List.mem_append_right _ (List.mem_of_getElem? (i := 83) (by decide +kernel))
theorem kx_84 : (Jvm.Cond.fieldLink "CoinJudge$Hasher" (21 : Nat) "CoinJudge$Hasher" "last" "[B") ∈ lw_tbl := List.mem_append_right _ (List.mem_of_getElem? (i := 84) (by decide +kernel))
theorem kx_85 : (Jvm.Cond.fieldLink "CoinJudge$Hasher" (25 : Nat) "CoinJudge$Hasher" "between" "[B") ∈ lw_tbl := List.mem_append_right _ (List.mem_of_getElem? (i := 85) (by decide +kernel))
theorem kx_86 : (Jvm.Cond.fieldLink "CoinJudge$Hasher" (28 : Nat) "CoinJudge$Hasher" "tree" "[B") ∈ lw_tbl := List.mem_append_right _ (List.mem_of_getElem? (i := 86) (by decide +kernel))
theorem kx_100 : (Jvm.Cond.arrayClass Jvm.ClassFile.FieldType.int) ∈ lw_tbl := List.mem_append_right _ (List.mem_of_getElem? (i := 100) (by decide +kernel))
theorem kx_151 : (Jvm.Cond.code ({ cls := "java/util/Arrays", name := "fill", desc := "([JIIJ)V" } : Jvm.MethodName) prog_36_method_102_code (6 : Nat) (Option.none : Option Jvm.ClassFile.FieldType)) ∈ lw_tbl := List.mem_append_right _ (List.mem_of_getElem? (i := 151) (by decide +kernel))
theorem kx_152 : (Jvm.Cond.methodLink "java/util/Arrays" (13 : Nat) ({ cls := "java/util/Arrays", name := "rangeCheck", desc := "(III)V" } : Jvm.MethodName)) ∈ lw_tbl := List.mem_append_right _ (List.mem_of_getElem? (i := 152) (by decide +kernel))
theorem kx_153 : (Jvm.Cond.static ({ cls := "java/util/Arrays", name := "rangeCheck", desc := "(III)V" } : Jvm.MethodName)) ∈ lw_tbl := List.mem_append_right _ (List.mem_of_getElem? (i := 153) (by decide +kernel))
theorem kx_154 : (Jvm.Cond.code ({ cls := "java/util/Arrays", name := "rangeCheck", desc := "(III)V" } : Jvm.MethodName) prog_36_method_30_code (3 : Nat) (Option.none : Option Jvm.ClassFile.FieldType)) ∈ lw_tbl := List.mem_append_right _ (List.mem_of_getElem? (i := 154) (by decide +kernel))
theorem kx_155 : (Jvm.Cond.classLink "java/util/Arrays" (43 : Nat) "java/lang/IllegalArgumentException") ∈ lw_tbl := List.mem_append_right _ (List.mem_of_getElem? (i := 155) (by decide +kernel))
theorem kx_156 : (Jvm.Cond.instantiable "java/lang/IllegalArgumentException" (6 : Nat)) ∈ lw_tbl := List.mem_append_right _ (List.mem_of_getElem? (i := 156) (by decide +kernel))
theorem kx_198 : (Jvm.Cond.classLink "java/util/Arrays" (45 : Nat) "java/lang/StringBuilder") ∈ lw_tbl := List.mem_append_right _ (List.mem_of_getElem? (i := 198) (by decide +kernel))
theorem kx_199 : (Jvm.Cond.instantiable "java/lang/StringBuilder" (4 : Nat)) ∈ lw_tbl := List.mem_append_right _ (List.mem_of_getElem? (i := 199) (by decide +kernel))
theorem kx_200 : (Jvm.Cond.methodLink "java/util/Arrays" (47 : Nat) ({ cls := "java/lang/StringBuilder", name := "<init>", desc := "()V" } : Jvm.MethodName)) ∈ lw_tbl := List.mem_append_right _ (List.mem_of_getElem? (i := 200) (by decide +kernel))
theorem kx_201 : (Jvm.Cond.instanceMethod ({ cls := "java/lang/StringBuilder", name := "<init>", desc := "()V" } : Jvm.MethodName)) ∈ lw_tbl := List.mem_append_right _ (List.mem_of_getElem? (i := 201) (by decide +kernel))
theorem kx_202 : (Jvm.Cond.code ({ cls := "java/lang/StringBuilder", name := "<init>", desc := "()V" } : Jvm.MethodName) prog_30_method_1_code (1 : Nat) (Option.none : Option Jvm.ClassFile.FieldType)) ∈ lw_tbl := List.mem_append_right _ (List.mem_of_getElem? (i := 202) (by decide +kernel))
theorem kx_230 : (Jvm.Cond.methodLink "java/util/Arrays" (50 : Nat) ({ cls := "java/lang/StringBuilder", name := "append", desc := "(Ljava/lang/String;)Ljava/lang/StringBuilder;" } : Jvm.MethodName)) ∈ lw_tbl := List.mem_append_right _ (List.mem_of_getElem? (i := 230) (by decide +kernel))
theorem kx_231 : (Jvm.Cond.instanceMethod ({ cls := "java/lang/StringBuilder", name := "append", desc := "(Ljava/lang/String;)Ljava/lang/StringBuilder;" } : Jvm.MethodName)) ∈ lw_tbl := List.mem_append_right _ (List.mem_of_getElem? (i := 231) (by decide +kernel))
theorem kx_232 : (Jvm.Cond.selects "java/lang/StringBuilder" ({ cls := "java/lang/StringBuilder", name := "append", desc := "(Ljava/lang/String;)Ljava/lang/StringBuilder;" } : Jvm.MethodName) ({ cls := "java/lang/StringBuilder", name := "append", desc := "(Ljava/lang/String;)Ljava/lang/StringBuilder;" } : Jvm.MethodName)) ∈ lw_tbl := List.mem_append_right _ (List.mem_of_getElem? (i := 232) (by decide +kernel))
theorem kx_233 : (Jvm.Cond.code ({ cls := "java/lang/StringBuilder", name := "append", desc := "(Ljava/lang/String;)Ljava/lang/StringBuilder;" } : Jvm.MethodName) prog_30_method_7_code (2 : Nat) (Option.some (Jvm.ClassFile.FieldType.object "java/lang/StringBuilder"))) ∈ lw_tbl := List.mem_append_right _ (List.mem_of_getElem? (i := 233) (by decide +kernel))
theorem kx_254 : (Jvm.Cond.code ({ cls := "java/lang/Math", name := "max", desc := "(II)I" } : Jvm.MethodName) prog_27_method_65_code (2 : Nat) (Option.some Jvm.ClassFile.FieldType.int)) ∈ lw_tbl := List.mem_append_right _ (List.mem_of_getElem? (i := 254) (by decide +kernel))
theorem kx_262 : (Jvm.Cond.code ({ cls := "java/util/Arrays", name := "copyOf", desc := "([BI)[B" } : Jvm.MethodName) prog_36_method_121_code (3 : Nat) (Option.some (Jvm.ClassFile.FieldType.array Jvm.ClassFile.FieldType.byte))) ∈ lw_tbl := List.mem_append_right _ (List.mem_of_getElem? (i := 262) (by decide +kernel))
theorem kx_263 : (Jvm.Cond.methodLink "java/util/Arrays" (310 : Nat) ({ cls := "[B", name := "clone", desc := "()Ljava/lang/Object;" } : Jvm.MethodName)) ∈ lw_tbl := List.mem_append_right _ (List.mem_of_getElem? (i := 263) (by decide +kernel))
theorem kx_267 : (Jvm.Cond.selects "[B" ({ cls := "[B", name := "clone", desc := "()Ljava/lang/Object;" } : Jvm.MethodName) ({ cls := "java/lang/Object", name := "clone", desc := "()Ljava/lang/Object;" } : Jvm.MethodName)) ∈ lw_tbl := List.mem_append_right _ (List.mem_of_getElem? (i := 267) (by decide +kernel))
theorem kx_270 : (Jvm.Cond.methodLink "java/util/Arrays" (304 : Nat) ({ cls := "java/lang/Math", name := "min", desc := "(II)I" } : Jvm.MethodName)) ∈ lw_tbl := List.mem_append_right _ (List.mem_of_getElem? (i := 270) (by decide +kernel))
theorem kx_271 : (Jvm.Cond.static ({ cls := "java/lang/Math", name := "min", desc := "(II)I" } : Jvm.MethodName)) ∈ lw_tbl := List.mem_append_right _ (List.mem_of_getElem? (i := 271) (by decide +kernel))
theorem kx_272 : (Jvm.Cond.code ({ cls := "java/lang/Math", name := "min", desc := "(II)I" } : Jvm.MethodName) prog_27_method_69_code (2 : Nat) (Option.some Jvm.ClassFile.FieldType.int)) ∈ lw_tbl := List.mem_append_right _ (List.mem_of_getElem? (i := 272) (by decide +kernel))
theorem kx_273 : (Jvm.Cond.methodLink "java/util/Arrays" (150 : Nat) ({ cls := "java/lang/System", name := "arraycopy", desc := "(Ljava/lang/Object;ILjava/lang/Object;II)V" } : Jvm.MethodName)) ∈ lw_tbl := List.mem_append_right _ (List.mem_of_getElem? (i := 273) (by decide +kernel))
theorem kx_274 : (Jvm.Cond.static ({ cls := "java/lang/System", name := "arraycopy", desc := "(Ljava/lang/Object;ILjava/lang/Object;II)V" } : Jvm.MethodName)) ∈ lw_tbl := List.mem_append_right _ (List.mem_of_getElem? (i := 274) (by decide +kernel))
theorem kx_350 : (Jvm.Cond.methodLink "java/util/Arrays" (54 : Nat) ({ cls := "java/lang/StringBuilder", name := "append", desc := "(I)Ljava/lang/StringBuilder;" } : Jvm.MethodName)) ∈ lw_tbl := List.mem_append_right _ (List.mem_of_getElem? (i := 350) (by decide +kernel))
theorem kx_351 : (Jvm.Cond.instanceMethod ({ cls := "java/lang/StringBuilder", name := "append", desc := "(I)Ljava/lang/StringBuilder;" } : Jvm.MethodName)) ∈ lw_tbl := List.mem_append_right _ (List.mem_of_getElem? (i := 351) (by decide +kernel))
theorem kx_352 : (Jvm.Cond.selects "java/lang/StringBuilder" ({ cls := "java/lang/StringBuilder", name := "append", desc := "(I)Ljava/lang/StringBuilder;" } : Jvm.MethodName) ({ cls := "java/lang/StringBuilder", name := "append", desc := "(I)Ljava/lang/StringBuilder;" } : Jvm.MethodName)) ∈ lw_tbl := List.mem_append_right _ (List.mem_of_getElem? (i := 352) (by decide +kernel))
theorem kx_353 : (Jvm.Cond.code ({ cls := "java/lang/StringBuilder", name := "append", desc := "(I)Ljava/lang/StringBuilder;" } : Jvm.MethodName) prog_30_method_15_code (2 : Nat) (Option.some (Jvm.ClassFile.FieldType.object "java/lang/StringBuilder"))) ∈ lw_tbl := List.mem_append_right _ (List.mem_of_getElem? (i := 353) (by decide +kernel))
theorem kx_377 : (Jvm.Cond.methodLink "java/util/Arrays" (61 : Nat) ({ cls := "java/lang/StringBuilder", name := "toString", desc := "()Ljava/lang/String;" } : Jvm.MethodName)) ∈ lw_tbl := List.mem_append_right _ (List.mem_of_getElem? (i := 377) (by decide +kernel))
theorem kx_378 : (Jvm.Cond.instanceMethod ({ cls := "java/lang/StringBuilder", name := "toString", desc := "()Ljava/lang/String;" } : Jvm.MethodName)) ∈ lw_tbl := List.mem_append_right _ (List.mem_of_getElem? (i := 378) (by decide +kernel))
theorem kx_379 : (Jvm.Cond.selects "java/lang/StringBuilder" ({ cls := "java/lang/StringBuilder", name := "toString", desc := "()Ljava/lang/String;" } : Jvm.MethodName) ({ cls := "java/lang/StringBuilder", name := "toString", desc := "()Ljava/lang/String;" } : Jvm.MethodName)) ∈ lw_tbl := List.mem_append_right _ (List.mem_of_getElem? (i := 379) (by decide +kernel))
theorem kx_380 : (Jvm.Cond.code ({ cls := "java/lang/StringBuilder", name := "toString", desc := "()Ljava/lang/String;" } : Jvm.MethodName) prog_30_method_42_code (1 : Nat) (Option.some (Jvm.ClassFile.FieldType.object "java/lang/String"))) ∈ lw_tbl := List.mem_append_right _ (List.mem_of_getElem? (i := 380) (by decide +kernel))
theorem kx_406 : (Jvm.Cond.code ({ cls := "java/util/Arrays", name := "copyOfRange", desc := "([BII)[B" } : Jvm.MethodName) prog_36_method_132_code (3 : Nat) (Option.some (Jvm.ClassFile.FieldType.array Jvm.ClassFile.FieldType.byte))) ∈ lw_tbl := List.mem_append_right _ (List.mem_of_getElem? (i := 406) (by decide +kernel))
theorem kx_407 : (Jvm.Cond.methodLink "java/util/Arrays" (339 : Nat) ({ cls := "java/util/Arrays", name := "copyOfRangeByte", desc := "([BII)[B" } : Jvm.MethodName)) ∈ lw_tbl := List.mem_append_right _ (List.mem_of_getElem? (i := 407) (by decide +kernel))
theorem kx_408 : (Jvm.Cond.static ({ cls := "java/util/Arrays", name := "copyOfRangeByte", desc := "([BII)[B" } : Jvm.MethodName)) ∈ lw_tbl := List.mem_append_right _ (List.mem_of_getElem? (i := 408) (by decide +kernel))
theorem kx_409 : (Jvm.Cond.code ({ cls := "java/util/Arrays", name := "copyOfRangeByte", desc := "([BII)[B" } : Jvm.MethodName) prog_36_method_133_code (5 : Nat) (Option.some (Jvm.ClassFile.FieldType.array Jvm.ClassFile.FieldType.byte))) ∈ lw_tbl := List.mem_append_right _ (List.mem_of_getElem? (i := 409) (by decide +kernel))
theorem kx_410 : (Jvm.Cond.methodLink "java/util/Arrays" (343 : Nat) ({ cls := "java/util/Arrays", name := "checkLength", desc := "(II)V" } : Jvm.MethodName)) ∈ lw_tbl := List.mem_append_right _ (List.mem_of_getElem? (i := 410) (by decide +kernel))
theorem kx_411 : (Jvm.Cond.static ({ cls := "java/util/Arrays", name := "checkLength", desc := "(II)V" } : Jvm.MethodName)) ∈ lw_tbl := List.mem_append_right _ (List.mem_of_getElem? (i := 411) (by decide +kernel))
theorem kx_412 : (Jvm.Cond.code ({ cls := "java/util/Arrays", name := "checkLength", desc := "(II)V" } : Jvm.MethodName) prog_36_method_131_code (2 : Nat) (Option.none : Option Jvm.ClassFile.FieldType)) ∈ lw_tbl := List.mem_append_right _ (List.mem_of_getElem? (i := 412) (by decide +kernel))
theorem kx_414 : (Jvm.Cond.methodLink "java/util/Arrays" (65 : Nat) ({ cls := "java/lang/IllegalArgumentException", name := "<init>", desc := "(Ljava/lang/String;)V" } : Jvm.MethodName)) ∈ lw_tbl := List.mem_append_right _ (List.mem_of_getElem? (i := 414) (by decide +kernel))
theorem kx_415 : (Jvm.Cond.instanceMethod ({ cls := "java/lang/IllegalArgumentException", name := "<init>", desc := "(Ljava/lang/String;)V" } : Jvm.MethodName)) ∈ lw_tbl := List.mem_append_right _ (List.mem_of_getElem? (i := 415) (by decide +kernel))
theorem kx_416 : (Jvm.Cond.code ({ cls := "java/lang/IllegalArgumentException", name := "<init>", desc := "(Ljava/lang/String;)V" } : Jvm.MethodName) prog_23_method_2_code (2 : Nat) (Option.none : Option Jvm.ClassFile.FieldType)) ∈ lw_tbl := List.mem_append_right _ (List.mem_of_getElem? (i := 416) (by decide +kernel))
theorem kx_463 : (Jvm.Cond.classLink "java/util/Arrays" (68 : Nat) "java/lang/ArrayIndexOutOfBoundsException") ∈ lw_tbl := List.mem_append_right _ (List.mem_of_getElem? (i := 463) (by decide +kernel))
theorem kx_464 : (Jvm.Cond.instantiable "java/lang/ArrayIndexOutOfBoundsException" (6 : Nat)) ∈ lw_tbl := List.mem_append_right _ (List.mem_of_getElem? (i := 464) (by decide +kernel))
theorem kx_474 : (Jvm.Cond.methodLink "java/util/Arrays" (70 : Nat) ({ cls := "java/lang/ArrayIndexOutOfBoundsException", name := "<init>", desc := "(I)V" } : Jvm.MethodName)) ∈ lw_tbl := List.mem_append_right _ (List.mem_of_getElem? (i := 474) (by decide +kernel))
theorem kx_475 : (Jvm.Cond.instanceMethod ({ cls := "java/lang/ArrayIndexOutOfBoundsException", name := "<init>", desc := "(I)V" } : Jvm.MethodName)) ∈ lw_tbl := List.mem_append_right _ (List.mem_of_getElem? (i := 475) (by decide +kernel))
theorem kx_476 : (Jvm.Cond.code ({ cls := "java/lang/ArrayIndexOutOfBoundsException", name := "<init>", desc := "(I)V" } : Jvm.MethodName) prog_20_method_3_code (2 : Nat) (Option.none : Option Jvm.ClassFile.FieldType)) ∈ lw_tbl := List.mem_append_right _ (List.mem_of_getElem? (i := 476) (by decide +kernel))
theorem kx_717 : (Jvm.Cond.code ({ cls := "CoinJudge$Target", name := "<init>", desc := "()V" } : Jvm.MethodName) prog_11_method_1_code (1 : Nat) (Option.none : Option Jvm.ClassFile.FieldType)) ∈ lw_tbl := List.mem_append_right _ (List.mem_of_getElem? (i := 717) (by decide +kernel))
theorem kx_718 : (Jvm.Cond.methodLink "CoinJudge$Target" (3 : Nat) ({ cls := "java/lang/Object", name := "<init>", desc := "()V" } : Jvm.MethodName)) ∈ lw_tbl := List.mem_append_right _ (List.mem_of_getElem? (i := 718) (by decide +kernel))
theorem kx_719 : (Jvm.Cond.fieldLink "CoinJudge$Target" (11 : Nat) "CoinJudge$Target" "value" "[B") ∈ lw_tbl := List.mem_append_right _ (List.mem_of_getElem? (i := 719) (by decide +kernel))
theorem kx_720 : (Jvm.Cond.fieldLink "CoinJudge$Target" (15 : Nat) "CoinJudge$Target" "divisor" "[B") ∈ lw_tbl := List.mem_append_right _ (List.mem_of_getElem? (i := 720) (by decide +kernel))
theorem kx_721 : (Jvm.Cond.fieldLink "CoinJudge$Target" (18 : Nat) "CoinJudge$Target" "rest" "[B") ∈ lw_tbl := List.mem_append_right _ (List.mem_of_getElem? (i := 721) (by decide +kernel))
theorem kx_829 : (Jvm.Cond.instanceMethod ({ cls := "CoinJudge$Buffer", name := "addNumber", desc := "(JI)V" } : Jvm.MethodName)) ∈ lw_tbl := List.mem_append_right _ (List.mem_of_getElem? (i := 829) (by decide +kernel))
theorem kx_830 : (Jvm.Cond.selects "CoinJudge$Buffer" ({ cls := "CoinJudge$Buffer", name := "addNumber", desc := "(JI)V" } : Jvm.MethodName) ({ cls := "CoinJudge$Buffer", name := "addNumber", desc := "(JI)V" } : Jvm.MethodName)) ∈ lw_tbl := List.mem_append_right _ (List.mem_of_getElem? (i := 830) (by decide +kernel))
theorem kx_831 : (Jvm.Cond.code ({ cls := "CoinJudge$Buffer", name := "addNumber", desc := "(JI)V" } : Jvm.MethodName) prog_3_method_4_code (5 : Nat) (Option.none : Option Jvm.ClassFile.FieldType)) ∈ lw_tbl := List.mem_append_right _ (List.mem_of_getElem? (i := 831) (by decide +kernel))
theorem kx_845 : (Jvm.Cond.code ({ cls := "CoinJudge$Buffer", name := "clear", desc := "()V" } : Jvm.MethodName) prog_3_method_3_code (1 : Nat) (Option.none : Option Jvm.ClassFile.FieldType)) ∈ lw_tbl := List.mem_append_right _ (List.mem_of_getElem? (i := 845) (by decide +kernel))
theorem kx_870 : (Jvm.Cond.code ({ cls := "CoinJudge$Buffer", name := "addCount", desc := "(I)V" } : Jvm.MethodName) prog_3_method_6_code (3 : Nat) (Option.none : Option Jvm.ClassFile.FieldType)) ∈ lw_tbl := List.mem_append_right _ (List.mem_of_getElem? (i := 870) (by decide +kernel))
theorem kx_874 : (Jvm.Cond.code ({ cls := "CoinJudge$Buffer", name := "addBytes", desc := "([BII)V" } : Jvm.MethodName) prog_3_method_7_code (4 : Nat) (Option.none : Option Jvm.ClassFile.FieldType)) ∈ lw_tbl := List.mem_append_right _ (List.mem_of_getElem? (i := 874) (by decide +kernel))
theorem kx_875 : (Jvm.Cond.methodLink "CoinJudge$Buffer" (27 : Nat) ({ cls := "java/lang/System", name := "arraycopy", desc := "(Ljava/lang/Object;ILjava/lang/Object;II)V" } : Jvm.MethodName)) ∈ lw_tbl := List.mem_append_right _ (List.mem_of_getElem? (i := 875) (by decide +kernel))
theorem kx_877 : (Jvm.Cond.instanceMethod ({ cls := "CoinJudge$Hasher", name := "twice", desc := "([BII[BI)V" } : Jvm.MethodName)) ∈ lw_tbl := List.mem_append_right _ (List.mem_of_getElem? (i := 877) (by decide +kernel))
theorem kx_878 : (Jvm.Cond.selects "CoinJudge$Hasher" ({ cls := "CoinJudge$Hasher", name := "twice", desc := "([BII[BI)V" } : Jvm.MethodName) ({ cls := "CoinJudge$Hasher", name := "twice", desc := "([BII[BI)V" } : Jvm.MethodName)) ∈ lw_tbl := List.mem_append_right _ (List.mem_of_getElem? (i := 878) (by decide +kernel))
theorem kx_879 : (Jvm.Cond.code ({ cls := "CoinJudge$Hasher", name := "twice", desc := "([BII[BI)V" } : Jvm.MethodName) prog_8_method_4_code (6 : Nat) (Option.none : Option Jvm.ClassFile.FieldType)) ∈ lw_tbl := List.mem_append_right _ (List.mem_of_getElem? (i := 879) (by decide +kernel))
theorem kx_880 : (Jvm.Cond.methodLink "CoinJudge$Hasher" (62 : Nat) ({ cls := "CoinJudge$Hasher", name := "sha", desc := "([BII[BI)V" } : Jvm.MethodName)) ∈ lw_tbl := List.mem_append_right _ (List.mem_of_getElem? (i := 880) (by decide +kernel))
theorem kx_881 : (Jvm.Cond.instanceMethod ({ cls := "CoinJudge$Hasher", name := "sha", desc := "([BII[BI)V" } : Jvm.MethodName)) ∈ lw_tbl := List.mem_append_right _ (List.mem_of_getElem? (i := 881) (by decide +kernel))
theorem kx_882 : (Jvm.Cond.selects "CoinJudge$Hasher" ({ cls := "CoinJudge$Hasher", name := "sha", desc := "([BII[BI)V" } : Jvm.MethodName) ({ cls := "CoinJudge$Hasher", name := "sha", desc := "([BII[BI)V" } : Jvm.MethodName)) ∈ lw_tbl := List.mem_append_right _ (List.mem_of_getElem? (i := 882) (by decide +kernel))
theorem kx_883 : (Jvm.Cond.code ({ cls := "CoinJudge$Hasher", name := "sha", desc := "([BII[BI)V" } : Jvm.MethodName) prog_8_method_2_code (8 : Nat) (Option.none : Option Jvm.ClassFile.FieldType)) ∈ lw_tbl := List.mem_append_right _ (List.mem_of_getElem? (i := 883) (by decide +kernel))
theorem kx_884 : (Jvm.Cond.fieldLink "CoinJudge$Hasher" (31 : Nat) "CoinJudge$Hasher" "SHA_START" "[I") ∈ lw_tbl := List.mem_append_right _ (List.mem_of_getElem? (i := 884) (by decide +kernel))
theorem kx_886 : (Jvm.Cond.methodLink "CoinJudge$Hasher" (34 : Nat) ({ cls := "java/lang/System", name := "arraycopy", desc := "(Ljava/lang/Object;ILjava/lang/Object;II)V" } : Jvm.MethodName)) ∈ lw_tbl := List.mem_append_right _ (List.mem_of_getElem? (i := 886) (by decide +kernel))
theorem kx_887 : (Jvm.Cond.methodLink "CoinJudge$Hasher" (40 : Nat) ({ cls := "CoinJudge$Hasher", name := "shaBlock", desc := "([BI)V" } : Jvm.MethodName)) ∈ lw_tbl := List.mem_append_right _ (List.mem_of_getElem? (i := 887) (by decide +kernel))
theorem kx_889 : (Jvm.Cond.instanceMethod ({ cls := "CoinJudge$Hasher", name := "shaBlock", desc := "([BI)V" } : Jvm.MethodName)) ∈ lw_tbl := List.mem_append_right _ (List.mem_of_getElem? (i := 889) (by decide +kernel))
theorem kx_890 : (Jvm.Cond.code ({ cls := "CoinJudge$Hasher", name := "shaBlock", desc := "([BI)V" } : Jvm.MethodName) prog_8_method_8_code (15 : Nat) (Option.none : Option Jvm.ClassFile.FieldType)) ∈ lw_tbl := List.mem_append_right _ (List.mem_of_getElem? (i := 890) (by decide +kernel))
theorem kx_891 : (Jvm.Cond.fieldLink "CoinJudge$Hasher" (75 : Nat) "CoinJudge$Hasher" "SHA_WORDS" "[I") ∈ lw_tbl := List.mem_append_right _ (List.mem_of_getElem? (i := 891) (by decide +kernel))
theorem kx_893 : (Jvm.Cond.methodLink "CoinJudge$Hasher" (44 : Nat) ({ cls := "CoinJudge$Hasher", name := "pad", desc := "([BII)Z" } : Jvm.MethodName)) ∈ lw_tbl := List.mem_append_right _ (List.mem_of_getElem? (i := 893) (by decide +kernel))
theorem kx_895 : (Jvm.Cond.instanceMethod ({ cls := "CoinJudge$Hasher", name := "pad", desc := "([BII)Z" } : Jvm.MethodName)) ∈ lw_tbl := List.mem_append_right _ (List.mem_of_getElem? (i := 895) (by decide +kernel))
theorem kx_896 : (Jvm.Cond.code ({ cls := "CoinJudge$Hasher", name := "pad", desc := "([BII)Z" } : Jvm.MethodName) prog_8_method_7_code (4 : Nat) (Option.some Jvm.ClassFile.FieldType.boolean)) ∈ lw_tbl := List.mem_append_right _ (List.mem_of_getElem? (i := 896) (by decide +kernel))
theorem kx_897 : (Jvm.Cond.methodLink "CoinJudge$Hasher" (69 : Nat) ({ cls := "java/util/Arrays", name := "fill", desc := "([BIIB)V" } : Jvm.MethodName)) ∈ lw_tbl := List.mem_append_right _ (List.mem_of_getElem? (i := 897) (by decide +kernel))
theorem kx_898 : (Jvm.Cond.static ({ cls := "java/util/Arrays", name := "fill", desc := "([BIIB)V" } : Jvm.MethodName)) ∈ lw_tbl := List.mem_append_right _ (List.mem_of_getElem? (i := 898) (by decide +kernel))
theorem kx_899 : (Jvm.Cond.code ({ cls := "java/util/Arrays", name := "fill", desc := "([BIIB)V" } : Jvm.MethodName) prog_36_method_110_code (5 : Nat) (Option.none : Option Jvm.ClassFile.FieldType)) ∈ lw_tbl := List.mem_append_right _ (List.mem_of_getElem? (i := 899) (by decide +kernel))
theorem kx_900 : (Jvm.Cond.methodLink "CoinJudge$Hasher" (48 : Nat) ({ cls := "java/util/Arrays", name := "fill", desc := "([BB)V" } : Jvm.MethodName)) ∈ lw_tbl := List.mem_append_right _ (List.mem_of_getElem? (i := 900) (by decide +kernel))
theorem kx_901 : (Jvm.Cond.static ({ cls := "java/util/Arrays", name := "fill", desc := "([BB)V" } : Jvm.MethodName)) ∈ lw_tbl := List.mem_append_right _ (List.mem_of_getElem? (i := 901) (by decide +kernel))
theorem kx_902 : (Jvm.Cond.code ({ cls := "java/util/Arrays", name := "fill", desc := "([BB)V" } : Jvm.MethodName) prog_36_method_109_code (4 : Nat) (Option.none : Option Jvm.ClassFile.FieldType)) ∈ lw_tbl := List.mem_append_right _ (List.mem_of_getElem? (i := 902) (by decide +kernel))
theorem kx_903 : (Jvm.Cond.constantLong "CoinJudge$Hasher" (54 : Nat) (8 : Int64)) ∈ lw_tbl := List.mem_append_right _ (List.mem_of_getElem? (i := 903) (by decide +kernel))
theorem kx_907 : (Jvm.Cond.code ({ cls := "CoinJudge$Hasher", name := "root", desc := "([BI[B)V" } : Jvm.MethodName) prog_8_method_6_code (6 : Nat) (Option.none : Option Jvm.ClassFile.FieldType)) ∈ lw_tbl := List.mem_append_right _ (List.mem_of_getElem? (i := 907) (by decide +kernel))
theorem kx_908 : (Jvm.Cond.methodLink "CoinJudge$Hasher" (72 : Nat) ({ cls := "CoinJudge$Hasher", name := "twice", desc := "([BII[BI)V" } : Jvm.MethodName)) ∈ lw_tbl := List.mem_append_right _ (List.mem_of_getElem? (i := 908) (by decide +kernel))
theorem kx_917 : (Jvm.Cond.instanceMethod ({ cls := "CoinJudge$Target", name := "take", desc := "(I)Z" } : Jvm.MethodName)) ∈ lw_tbl := List.mem_append_right _ (List.mem_of_getElem? (i := 917) (by decide +kernel))
theorem kx_918 : (Jvm.Cond.selects "CoinJudge$Target" ({ cls := "CoinJudge$Target", name := "take", desc := "(I)Z" } : Jvm.MethodName) ({ cls := "CoinJudge$Target", name := "take", desc := "(I)Z" } : Jvm.MethodName)) ∈ lw_tbl := List.mem_append_right _ (List.mem_of_getElem? (i := 918) (by decide +kernel))
theorem kx_919 : (Jvm.Cond.code ({ cls := "CoinJudge$Target", name := "take", desc := "(I)Z" } : Jvm.MethodName) prog_11_method_2_code (6 : Nat) (Option.some Jvm.ClassFile.FieldType.boolean)) ∈ lw_tbl := List.mem_append_right _ (List.mem_of_getElem? (i := 919) (by decide +kernel))
theorem kx_920 : (Jvm.Cond.methodLink "CoinJudge$Target" (21 : Nat) ({ cls := "java/util/Arrays", name := "fill", desc := "([BB)V" } : Jvm.MethodName)) ∈ lw_tbl := List.mem_append_right _ (List.mem_of_getElem? (i := 920) (by decide +kernel))
theorem kx_921 : (Jvm.Cond.constant "CoinJudge$Target" (27 : Nat) (8388608 : Int32)) ∈ lw_tbl := List.mem_append_right _ (List.mem_of_getElem? (i := 921) (by decide +kernel))
theorem kx_925 : (Jvm.Cond.code ({ cls := "CoinJudge$Target", name := "isReachedBy", desc := "([B)Z" } : Jvm.MethodName) prog_11_method_3_code (3 : Nat) (Option.some Jvm.ClassFile.FieldType.boolean)) ∈ lw_tbl := List.mem_append_right _ (List.mem_of_getElem? (i := 925) (by decide +kernel))
theorem kx_998 : (Jvm.Cond.static ({ cls := "CoinJudge$Buffer", name := "number", desc := "([BII)J" } : Jvm.MethodName)) ∈ lw_tbl := List.mem_append_right _ (List.mem_of_getElem? (i := 998) (by decide +kernel))
theorem kx_999 : (Jvm.Cond.code ({ cls := "CoinJudge$Buffer", name := "number", desc := "([BII)J" } : Jvm.MethodName) prog_3_method_2_code (6 : Nat) (Option.some Jvm.ClassFile.FieldType.long)) ∈ lw_tbl := List.mem_append_right _ (List.mem_of_getElem? (i := 999) (by decide +kernel))
theorem kx_1014 : (Jvm.Cond.code ({ cls := "CoinJudge$Target", name := "work", desc := "()J" } : Jvm.MethodName) prog_11_method_6_code (6 : Nat) (Option.some Jvm.ClassFile.FieldType.long)) ∈ lw_tbl := List.mem_append_right _ (List.mem_of_getElem? (i := 1014) (by decide +kernel))
theorem kx_1015 : (Jvm.Cond.methodLink "CoinJudge$Target" (48 : Nat) ({ cls := "java/lang/System", name := "arraycopy", desc := "(Ljava/lang/Object;ILjava/lang/Object;II)V" } : Jvm.MethodName)) ∈ lw_tbl := List.mem_append_right _ (List.mem_of_getElem? (i := 1015) (by decide +kernel))
theorem kx_1016 : (Jvm.Cond.methodLink "CoinJudge$Target" (54 : Nat) ({ cls := "CoinJudge$Target", name := "takeOut", desc := "()Z" } : Jvm.MethodName)) ∈ lw_tbl := List.mem_append_right _ (List.mem_of_getElem? (i := 1016) (by decide +kernel))
theorem kx_1018 : (Jvm.Cond.instanceMethod ({ cls := "CoinJudge$Target", name := "takeOut", desc := "()Z" } : Jvm.MethodName)) ∈ lw_tbl := List.mem_append_right _ (List.mem_of_getElem? (i := 1018) (by decide +kernel))
theorem kx_1019 : (Jvm.Cond.code ({ cls := "CoinJudge$Target", name := "takeOut", desc := "()Z" } : Jvm.MethodName) prog_11_method_8_code (4 : Nat) (Option.some Jvm.ClassFile.FieldType.boolean)) ∈ lw_tbl := List.mem_append_right _ (List.mem_of_getElem? (i := 1019) (by decide +kernel))
theorem kx_1020 : (Jvm.Cond.methodLink "CoinJudge$Target" (58 : Nat) ({ cls := "CoinJudge$Target", name := "doubleRest", desc := "()V" } : Jvm.MethodName)) ∈ lw_tbl := List.mem_append_right _ (List.mem_of_getElem? (i := 1020) (by decide +kernel))
theorem kx_1022 : (Jvm.Cond.instanceMethod ({ cls := "CoinJudge$Target", name := "doubleRest", desc := "()V" } : Jvm.MethodName)) ∈ lw_tbl := List.mem_append_right _ (List.mem_of_getElem? (i := 1022) (by decide +kernel))
theorem kx_1023 : (Jvm.Cond.code ({ cls := "CoinJudge$Target", name := "doubleRest", desc := "()V" } : Jvm.MethodName) prog_11_method_7_code (3 : Nat) (Option.none : Option Jvm.ClassFile.FieldType)) ∈ lw_tbl := List.mem_append_right _ (List.mem_of_getElem? (i := 1023) (by decide +kernel))
theorem kx_1046 : (Jvm.Cond.code ({ cls := "java/util/Arrays", name := "copyOf", desc := "([II)[I" } : Jvm.MethodName) prog_36_method_123_code (3 : Nat) (Option.some (Jvm.ClassFile.FieldType.array Jvm.ClassFile.FieldType.int))) ∈ lw_tbl := List.mem_append_right _ (List.mem_of_getElem? (i := 1046) (by decide +kernel))
theorem kx_1047 : (Jvm.Cond.methodLink "java/util/Arrays" (316 : Nat) ({ cls := "[I", name := "clone", desc := "()Ljava/lang/Object;" } : Jvm.MethodName)) ∈ lw_tbl := List.mem_append_right _ (List.mem_of_getElem? (i := 1047) (by decide +kernel))
theorem kx_1049 : (Jvm.Cond.selects "[I" ({ cls := "[I", name := "clone", desc := "()Ljava/lang/Object;" } : Jvm.MethodName) ({ cls := "java/lang/Object", name := "clone", desc := "()Ljava/lang/Object;" } : Jvm.MethodName)) ∈ lw_tbl := List.mem_append_right _ (List.mem_of_getElem? (i := 1049) (by decide +kernel))
theorem kx_1147 : (Jvm.Cond.code ({ cls := "CoinJudge$Buffer", name := "addHighFirst", desc := "(I)V" } : Jvm.MethodName) prog_3_method_5_code (2 : Nat) (Option.none : Option Jvm.ClassFile.FieldType)) ∈ lw_tbl := List.mem_append_right _ (List.mem_of_getElem? (i := 1147) (by decide +kernel))
theorem kx_1148 : (Jvm.Cond.constant "CoinJudge$Buffer" (21 : Nat) (65280 : Int32)) ∈ lw_tbl := List.mem_append_right _ (List.mem_of_getElem? (i := 1148) (by decide +kernel))
theorem kx_1149 : (Jvm.Cond.constant "CoinJudge$Buffer" (22 : Nat) (16711680 : Int32)) ∈ lw_tbl := List.mem_append_right _ (List.mem_of_getElem? (i := 1149) (by decide +kernel))
theorem kx_1150 : (Jvm.Cond.methodLink "CoinJudge$Buffer" (23 : Nat) ({ cls := "CoinJudge$Buffer", name := "addNumber", desc := "(JI)V" } : Jvm.MethodName)) ∈ lw_tbl := List.mem_append_right _ (List.mem_of_getElem? (i := 1150) (by decide +kernel))
theorem kx_1221 : (Jvm.Cond.code ({ cls := "CoinJudge$Hasher", name := "hash160", desc := "([BII[BI)V" } : Jvm.MethodName) prog_8_method_5_code (6 : Nat) (Option.none : Option Jvm.ClassFile.FieldType)) ∈ lw_tbl := List.mem_append_right _ (List.mem_of_getElem? (i := 1221) (by decide +kernel))
theorem kx_1222 : (Jvm.Cond.methodLink "CoinJudge$Hasher" (66 : Nat) ({ cls := "CoinJudge$Hasher", name := "ripe", desc := "([BII[BI)V" } : Jvm.MethodName)) ∈ lw_tbl := List.mem_append_right _ (List.mem_of_getElem? (i := 1222) (by decide +kernel))
theorem kx_1223 : (Jvm.Cond.instanceMethod ({ cls := "CoinJudge$Hasher", name := "ripe", desc := "([BII[BI)V" } : Jvm.MethodName)) ∈ lw_tbl := List.mem_append_right _ (List.mem_of_getElem? (i := 1223) (by decide +kernel))
theorem kx_1224 : (Jvm.Cond.selects "CoinJudge$Hasher" ({ cls := "CoinJudge$Hasher", name := "ripe", desc := "([BII[BI)V" } : Jvm.MethodName) ({ cls := "CoinJudge$Hasher", name := "ripe", desc := "([BII[BI)V" } : Jvm.MethodName)) ∈ lw_tbl := List.mem_append_right _ (List.mem_of_getElem? (i := 1224) (by decide +kernel))
theorem kx_1225 : (Jvm.Cond.code ({ cls := "CoinJudge$Hasher", name := "ripe", desc := "([BII[BI)V" } : Jvm.MethodName) prog_8_method_3_code (8 : Nat) (Option.none : Option Jvm.ClassFile.FieldType)) ∈ lw_tbl := List.mem_append_right _ (List.mem_of_getElem? (i := 1225) (by decide +kernel))
theorem kx_1226 : (Jvm.Cond.fieldLink "CoinJudge$Hasher" (56 : Nat) "CoinJudge$Hasher" "RIPE_START" "[I") ∈ lw_tbl := List.mem_append_right _ (List.mem_of_getElem? (i := 1226) (by decide +kernel))
theorem kx_1228 : (Jvm.Cond.methodLink "CoinJudge$Hasher" (59 : Nat) ({ cls := "CoinJudge$Hasher", name := "ripeBlock", desc := "([BI)V" } : Jvm.MethodName)) ∈ lw_tbl := List.mem_append_right _ (List.mem_of_getElem? (i := 1228) (by decide +kernel))
theorem kx_1230 : (Jvm.Cond.instanceMethod ({ cls := "CoinJudge$Hasher", name := "ripeBlock", desc := "([BI)V" } : Jvm.MethodName)) ∈ lw_tbl := List.mem_append_right _ (List.mem_of_getElem? (i := 1230) (by decide +kernel))
theorem kx_1231 : (Jvm.Cond.code ({ cls := "CoinJudge$Hasher", name := "ripeBlock", desc := "([BI)V" } : Jvm.MethodName) prog_8_method_9_code (4 : Nat) (Option.none : Option Jvm.ClassFile.FieldType)) ∈ lw_tbl := List.mem_append_right _ (List.mem_of_getElem? (i := 1231) (by decide +kernel))
theorem kx_1232 : (Jvm.Cond.methodLink "CoinJudge$Hasher" (78 : Nat) ({ cls := "CoinJudge$Buffer", name := "number", desc := "([BII)J" } : Jvm.MethodName)) ∈ lw_tbl := List.mem_append_right _ (List.mem_of_getElem? (i := 1232) (by decide +kernel))
theorem kx_1233 : (Jvm.Cond.methodLink "CoinJudge$Hasher" (84 : Nat) ({ cls := "CoinJudge$Hasher", name := "ripeSide", desc := "(I)V" } : Jvm.MethodName)) ∈ lw_tbl := List.mem_append_right _ (List.mem_of_getElem? (i := 1233) (by decide +kernel))
theorem kx_1235 : (Jvm.Cond.instanceMethod ({ cls := "CoinJudge$Hasher", name := "ripeSide", desc := "(I)V" } : Jvm.MethodName)) ∈ lw_tbl := List.mem_append_right _ (List.mem_of_getElem? (i := 1235) (by decide +kernel))
theorem kx_1236 : (Jvm.Cond.code ({ cls := "CoinJudge$Hasher", name := "ripeSide", desc := "(I)V" } : Jvm.MethodName) prog_8_method_10_code (12 : Nat) (Option.none : Option Jvm.ClassFile.FieldType)) ∈ lw_tbl := List.mem_append_right _ (List.mem_of_getElem? (i := 1236) (by decide +kernel))
theorem kx_1237 : (Jvm.Cond.fieldLink "CoinJudge$Hasher" (88 : Nat) "CoinJudge$Hasher" "RIPE_ORDER" "[I") ∈ lw_tbl := List.mem_append_right _ (List.mem_of_getElem? (i := 1237) (by decide +kernel))
theorem kx_1239 : (Jvm.Cond.fieldLink "CoinJudge$Hasher" (91 : Nat) "CoinJudge$Hasher" "RIPE_WORDS" "[I") ∈ lw_tbl := List.mem_append_right _ (List.mem_of_getElem? (i := 1239) (by decide +kernel))
theorem kx_1241 : (Jvm.Cond.fieldLink "CoinJudge$Hasher" (94 : Nat) "CoinJudge$Hasher" "RIPE_TURNS" "[I") ∈ lw_tbl := List.mem_append_right _ (List.mem_of_getElem? (i := 1241) (by decide +kernel))
theorem kx_1403 : (Jvm.Cond.code ({ cls := "CoinJudge$Target", name := "stretch", desc := "(J)V" } : Jvm.MethodName) prog_11_method_4_code (8 : Nat) (Option.none : Option Jvm.ClassFile.FieldType)) ∈ lw_tbl := List.mem_append_right _ (List.mem_of_getElem? (i := 1403) (by decide +kernel))
theorem kx_1404 : (Jvm.Cond.constantLong "CoinJudge$Target" (28 : Nat) (1200 : Int64)) ∈ lw_tbl := List.mem_append_right _ (List.mem_of_getElem? (i := 1404) (by decide +kernel))
theorem kx_1405 : (Jvm.Cond.constantLong "CoinJudge$Target" (30 : Nat) (19200 : Int64)) ∈ lw_tbl := List.mem_append_right _ (List.mem_of_getElem? (i := 1405) (by decide +kernel))
theorem kx_1406 : (Jvm.Cond.methodLink "CoinJudge$Target" (32 : Nat) ({ cls := "java/lang/Math", name := "min", desc := "(JJ)J" } : Jvm.MethodName)) ∈ lw_tbl := List.mem_append_right _ (List.mem_of_getElem? (i := 1406) (by decide +kernel))
theorem kx_1407 : (Jvm.Cond.static ({ cls := "java/lang/Math", name := "min", desc := "(JJ)J" } : Jvm.MethodName)) ∈ lw_tbl := List.mem_append_right _ (List.mem_of_getElem? (i := 1407) (by decide +kernel))
theorem kx_1408 : (Jvm.Cond.code ({ cls := "java/lang/Math", name := "min", desc := "(JJ)J" } : Jvm.MethodName) prog_27_method_70_code (4 : Nat) (Option.some Jvm.ClassFile.FieldType.long)) ∈ lw_tbl := List.mem_append_right _ (List.mem_of_getElem? (i := 1408) (by decide +kernel))
theorem kx_1409 : (Jvm.Cond.methodLink "CoinJudge$Target" (38 : Nat) ({ cls := "java/lang/Math", name := "max", desc := "(JJ)J" } : Jvm.MethodName)) ∈ lw_tbl := List.mem_append_right _ (List.mem_of_getElem? (i := 1409) (by decide +kernel))
theorem kx_1410 : (Jvm.Cond.static ({ cls := "java/lang/Math", name := "max", desc := "(JJ)J" } : Jvm.MethodName)) ∈ lw_tbl := List.mem_append_right _ (List.mem_of_getElem? (i := 1410) (by decide +kernel))
theorem kx_1411 : (Jvm.Cond.code ({ cls := "java/lang/Math", name := "max", desc := "(JJ)J" } : Jvm.MethodName) prog_27_method_66_code (4 : Nat) (Option.some Jvm.ClassFile.FieldType.long)) ∈ lw_tbl := List.mem_append_right _ (List.mem_of_getElem? (i := 1411) (by decide +kernel))
theorem kx_1412 : (Jvm.Cond.constantLong "CoinJudge$Target" (41 : Nat) (4800 : Int64)) ∈ lw_tbl := List.mem_append_right _ (List.mem_of_getElem? (i := 1412) (by decide +kernel))
theorem kx_1413 : (Jvm.Cond.constant "CoinJudge$Target" (43 : Nat) (545259519 : Int32)) ∈ lw_tbl := List.mem_append_right _ (List.mem_of_getElem? (i := 1413) (by decide +kernel))
theorem kx_1414 : (Jvm.Cond.methodLink "CoinJudge$Target" (44 : Nat) ({ cls := "CoinJudge$Target", name := "take", desc := "(I)Z" } : Jvm.MethodName)) ∈ lw_tbl := List.mem_append_right _ (List.mem_of_getElem? (i := 1414) (by decide +kernel))
theorem kx_1418 : (Jvm.Cond.code ({ cls := "CoinJudge$Target", name := "asBits", desc := "()I" } : Jvm.MethodName) prog_11_method_5_code (4 : Nat) (Option.some Jvm.ClassFile.FieldType.int)) ∈ lw_tbl := List.mem_append_right _ (List.mem_of_getElem? (i := 1418) (by decide +kernel))
theorem kxp_8 : Cond.selects "CoinJudge$Hasher" ({ cls := "CoinJudge$Hasher", name := "shaBlock", desc := "([BI)V" } : MethodName) ({ cls := "CoinJudge$Hasher", name := "shaBlock", desc := "([BI)V" } : MethodName) ∈ lw_tbl := List.mem_append_left _ (List.mem_of_getElem? (i := 8) (by decide +kernel))
theorem kxp_9 : Cond.selects "CoinJudge$Hasher" ({ cls := "CoinJudge$Hasher", name := "pad", desc := "([BII)Z" } : MethodName) ({ cls := "CoinJudge$Hasher", name := "pad", desc := "([BII)Z" } : MethodName) ∈ lw_tbl := List.mem_append_left _ (List.mem_of_getElem? (i := 9) (by decide +kernel))
theorem kxp_12 : Cond.selects "CoinJudge$Target" ({ cls := "CoinJudge$Target", name := "takeOut", desc := "()Z" } : MethodName) ({ cls := "CoinJudge$Target", name := "takeOut", desc := "()Z" } : MethodName) ∈ lw_tbl := List.mem_append_left _ (List.mem_of_getElem? (i := 12) (by decide +kernel))
theorem kxp_13 : Cond.selects "CoinJudge$Target" ({ cls := "CoinJudge$Target", name := "doubleRest", desc := "()V" } : MethodName) ({ cls := "CoinJudge$Target", name := "doubleRest", desc := "()V" } : MethodName) ∈ lw_tbl := List.mem_append_left _ (List.mem_of_getElem? (i := 13) (by decide +kernel))
theorem kxp_19 : Cond.selects "CoinJudge$Hasher" ({ cls := "CoinJudge$Hasher", name := "ripeBlock", desc := "([BI)V" } : MethodName) ({ cls := "CoinJudge$Hasher", name := "ripeBlock", desc := "([BI)V" } : MethodName) ∈ lw_tbl := List.mem_append_left _ (List.mem_of_getElem? (i := 19) (by decide +kernel))
theorem kxp_20 : Cond.selects "CoinJudge$Hasher" ({ cls := "CoinJudge$Hasher", name := "ripeSide", desc := "(I)V" } : MethodName) ({ cls := "CoinJudge$Hasher", name := "ripeSide", desc := "(I)V" } : MethodName) ∈ lw_tbl := List.mem_append_left _ (List.mem_of_getElem? (i := 20) (by decide +kernel))

theorem cl_X7 : vwCl[10]? = some (RX7, TX7, 20) := rfl
theorem in_X7 : ∀ w ∈ u_ws RX7 TX7 20, w ∈ lw_tbl ∧ goodWord w = true := by decide +kernel
abbrev mX7_init : ks_M := (RX7, cX7_init, 3, none, "<init>")
theorem dX7_init_0 : decode cX7_init 0 = .ok (.aload_n 0, 1) := by decide +kernel
theorem dX7_init_1 : decode cX7_init 1 = .ok (.invokespecial 3, 3) := by decide +kernel
theorem dX7_init_4 : decode cX7_init 4 = .ok (.aload_n 0, 1) := by decide +kernel
theorem dX7_init_5 : decode cX7_init 5 = .ok (.bipush 32, 2) := by decide +kernel
theorem dX7_init_7 : decode cX7_init 7 = .ok (.newarray .byte, 2) := by decide +kernel
theorem dX7_init_9 : decode cX7_init 9 = .ok (.putfield 9, 3) := by decide +kernel
theorem dX7_init_12 : decode cX7_init 12 = .ok (.aload_n 0, 1) := by decide +kernel
theorem dX7_init_13 : decode cX7_init 13 = .ok (.new 15, 3) := by decide +kernel
theorem dX7_init_16 : decode cX7_init 16 = .ok (.dup, 1) := by decide +kernel
theorem dX7_init_17 : decode cX7_init 17 = .ok (.invokespecial 17, 3) := by decide +kernel
theorem dX7_init_20 : decode cX7_init 20 = .ok (.putfield 18, 3) := by decide +kernel
theorem dX7_init_23 : decode cX7_init 23 = .ok (.aload_n 0, 1) := by decide +kernel
theorem dX7_init_24 : decode cX7_init 24 = .ok (.sipush 202, 3) := by decide +kernel
theorem dX7_init_27 : decode cX7_init 27 = .ok (.newarray .boolean, 2) := by decide +kernel
theorem dX7_init_29 : decode cX7_init 29 = .ok (.putfield 22, 3) := by decide +kernel
theorem dX7_init_32 : decode cX7_init 32 = .ok (.aload_n 0, 1) := by decide +kernel
theorem dX7_init_33 : decode cX7_init 33 = .ok (.new 26, 3) := by decide +kernel
theorem dX7_init_36 : decode cX7_init 36 = .ok (.dup, 1) := by decide +kernel
theorem dX7_init_37 : decode cX7_init 37 = .ok (.sipush 1600, 3) := by decide +kernel
theorem dX7_init_40 : decode cX7_init 40 = .ok (.invokespecial 28, 3) := by decide +kernel
theorem dX7_init_43 : decode cX7_init 43 = .ok (.putfield 31, 3) := by decide +kernel
theorem dX7_init_46 : decode cX7_init 46 = .ok (.aload_n 0, 1) := by decide +kernel
theorem dX7_init_47 : decode cX7_init 47 = .ok (.new 26, 3) := by decide +kernel
theorem dX7_init_50 : decode cX7_init 50 = .ok (.dup, 1) := by decide +kernel
theorem dX7_init_51 : decode cX7_init 51 = .ok (.sipush 8000, 3) := by decide +kernel
theorem dX7_init_54 : decode cX7_init 54 = .ok (.invokespecial 28, 3) := by decide +kernel
theorem dX7_init_57 : decode cX7_init 57 = .ok (.putfield 35, 3) := by decide +kernel
theorem dX7_init_60 : decode cX7_init 60 = .ok (.aload_n 0, 1) := by decide +kernel
theorem dX7_init_61 : decode cX7_init 61 = .ok (.aload_n 1, 1) := by decide +kernel
theorem dX7_init_62 : decode cX7_init 62 = .ok (.putfield 38, 3) := by decide +kernel
theorem dX7_init_65 : decode cX7_init 65 = .ok (.aload_n 0, 1) := by decide +kernel
theorem dX7_init_66 : decode cX7_init 66 = .ok (.aload_n 2, 1) := by decide +kernel
theorem dX7_init_67 : decode cX7_init 67 = .ok (.putfield 42, 3) := by decide +kernel
theorem dX7_init_70 : decode cX7_init 70 = .ok (.return_, 1) := by decide +kernel
abbrev mX7_headSize : ks_M := (RX7, cX7_headSize, 1, (some .int), "headSize")
theorem dX7_headSize_0 : decode cX7_headSize 0 = .ok (.iload_n 0, 1) := by decide +kernel
theorem dX7_headSize_1 : decode cX7_headSize 1 = .ok (.bipush 76, 2) := by decide +kernel
theorem dX7_headSize_3 : decode cX7_headSize 3 = .ok (.if_icmp .ne 7, 3) := by decide +kernel
theorem dX7_headSize_6 : decode cX7_headSize 6 = .ok (.iconst 2, 1) := by decide +kernel
theorem dX7_headSize_7 : decode cX7_headSize 7 = .ok (.goto 24, 3) := by decide +kernel
theorem dX7_headSize_10 : decode cX7_headSize 10 = .ok (.iload_n 0, 1) := by decide +kernel
theorem dX7_headSize_11 : decode cX7_headSize 11 = .ok (.bipush 77, 2) := by decide +kernel
theorem dX7_headSize_13 : decode cX7_headSize 13 = .ok (.if_icmp .ne 7, 3) := by decide +kernel
theorem dX7_headSize_16 : decode cX7_headSize 16 = .ok (.iconst 3, 1) := by decide +kernel
theorem dX7_headSize_17 : decode cX7_headSize 17 = .ok (.goto 14, 3) := by decide +kernel
theorem dX7_headSize_20 : decode cX7_headSize 20 = .ok (.iload_n 0, 1) := by decide +kernel
theorem dX7_headSize_21 : decode cX7_headSize 21 = .ok (.bipush 78, 2) := by decide +kernel
theorem dX7_headSize_23 : decode cX7_headSize 23 = .ok (.if_icmp .ne 7, 3) := by decide +kernel
theorem dX7_headSize_26 : decode cX7_headSize 26 = .ok (.iconst 5, 1) := by decide +kernel
theorem dX7_headSize_27 : decode cX7_headSize 27 = .ok (.goto 4, 3) := by decide +kernel
theorem dX7_headSize_30 : decode cX7_headSize 30 = .ok (.iconst 1, 1) := by decide +kernel
theorem dX7_headSize_31 : decode cX7_headSize 31 = .ok (.ireturn, 1) := by decide +kernel
abbrev mX7_after : ks_M := (RX7, cX7_after, 7, (some .int), "after")
theorem dX7_after_0 : decode cX7_after 0 = .ok (.aload_n 0, 1) := by decide +kernel
theorem dX7_after_1 : decode cX7_after 1 = .ok (.iload_n 1, 1) := by decide +kernel
theorem dX7_after_2 : decode cX7_after 2 = .ok (.baload, 1) := by decide +kernel
theorem dX7_after_3 : decode cX7_after 3 = .ok (.sipush 255, 3) := by decide +kernel
theorem dX7_after_6 : decode cX7_after 6 = .ok (.iand, 1) := by decide +kernel
theorem dX7_after_7 : decode cX7_after 7 = .ok (.istore_n 3, 1) := by decide +kernel
theorem dX7_after_8 : decode cX7_after 8 = .ok (.iload_n 3, 1) := by decide +kernel
theorem dX7_after_9 : decode cX7_after 9 = .ok (.invokestatic 46, 3) := by decide +kernel
theorem dX7_after_12 : decode cX7_after 12 = .ok (.istore 4, 2) := by decide +kernel
theorem dX7_after_14 : decode cX7_after 14 = .ok (.iload 4, 2) := by decide +kernel
theorem dX7_after_16 : decode cX7_after 16 = .ok (.iload_n 2, 1) := by decide +kernel
theorem dX7_after_17 : decode cX7_after 17 = .ok (.iload_n 1, 1) := by decide +kernel
theorem dX7_after_18 : decode cX7_after 18 = .ok (.isub, 1) := by decide +kernel
theorem dX7_after_19 : decode cX7_after 19 = .ok (.if_icmp .le 5, 3) := by decide +kernel
theorem dX7_after_22 : decode cX7_after 22 = .ok (.iconst (-1), 1) := by decide +kernel
theorem dX7_after_23 : decode cX7_after 23 = .ok (.ireturn, 1) := by decide +kernel
theorem dX7_after_24 : decode cX7_after 24 = .ok (.iload_n 3, 1) := by decide +kernel
theorem dX7_after_25 : decode cX7_after 25 = .ok (.bipush 76, 2) := by decide +kernel
theorem dX7_after_27 : decode cX7_after 27 = .ok (.if_icmp .ge 8, 3) := by decide +kernel
theorem dX7_after_30 : decode cX7_after 30 = .ok (.iload_n 3, 1) := by decide +kernel
theorem dX7_after_31 : decode cX7_after 31 = .ok (.i2l, 1) := by decide +kernel
theorem dX7_after_32 : decode cX7_after 32 = .ok (.goto 14, 3) := by decide +kernel
theorem dX7_after_35 : decode cX7_after 35 = .ok (.aload_n 0, 1) := by decide +kernel
theorem dX7_after_36 : decode cX7_after 36 = .ok (.iload_n 1, 1) := by decide +kernel
theorem dX7_after_37 : decode cX7_after 37 = .ok (.iconst 1, 1) := by decide +kernel
theorem dX7_after_38 : decode cX7_after 38 = .ok (.iadd, 1) := by decide +kernel
theorem dX7_after_39 : decode cX7_after 39 = .ok (.iload 4, 2) := by decide +kernel
theorem dX7_after_41 : decode cX7_after 41 = .ok (.iconst 1, 1) := by decide +kernel
theorem dX7_after_42 : decode cX7_after 42 = .ok (.isub, 1) := by decide +kernel
theorem dX7_after_43 : decode cX7_after 43 = .ok (.invokestatic 50, 3) := by decide +kernel
theorem dX7_after_46 : decode cX7_after 46 = .ok (.lstore 5, 2) := by decide +kernel
theorem dX7_after_48 : decode cX7_after 48 = .ok (.lload 5, 2) := by decide +kernel
theorem dX7_after_50 : decode cX7_after 50 = .ok (.iload_n 2, 1) := by decide +kernel
theorem dX7_after_51 : decode cX7_after 51 = .ok (.iload_n 1, 1) := by decide +kernel
theorem dX7_after_52 : decode cX7_after 52 = .ok (.isub, 1) := by decide +kernel
theorem dX7_after_53 : decode cX7_after 53 = .ok (.iload 4, 2) := by decide +kernel
theorem dX7_after_55 : decode cX7_after 55 = .ok (.isub, 1) := by decide +kernel
theorem dX7_after_56 : decode cX7_after 56 = .ok (.i2l, 1) := by decide +kernel
theorem dX7_after_57 : decode cX7_after 57 = .ok (.lcmp, 1) := by decide +kernel
theorem dX7_after_58 : decode cX7_after 58 = .ok (.ifCond .le 7, 3) := by decide +kernel
theorem dX7_after_61 : decode cX7_after 61 = .ok (.iconst (-1), 1) := by decide +kernel
theorem dX7_after_62 : decode cX7_after 62 = .ok (.goto 11, 3) := by decide +kernel
theorem dX7_after_65 : decode cX7_after 65 = .ok (.iload_n 1, 1) := by decide +kernel
theorem dX7_after_66 : decode cX7_after 66 = .ok (.iload 4, 2) := by decide +kernel
theorem dX7_after_68 : decode cX7_after 68 = .ok (.iadd, 1) := by decide +kernel
theorem dX7_after_69 : decode cX7_after 69 = .ok (.lload 5, 2) := by decide +kernel
theorem dX7_after_71 : decode cX7_after 71 = .ok (.l2i, 1) := by decide +kernel
theorem dX7_after_72 : decode cX7_after 72 = .ok (.iadd, 1) := by decide +kernel
theorem dX7_after_73 : decode cX7_after 73 = .ok (.ireturn, 1) := by decide +kernel
abbrev mX7_asks : ks_M := (RX7, cX7_asks, 7, (some .int), "asks")
theorem dX7_asks_0 : decode cX7_asks 0 = .ok (.iconst 0, 1) := by decide +kernel
theorem dX7_asks_1 : decode cX7_asks 1 = .ok (.istore_n 3, 1) := by decide +kernel
theorem dX7_asks_2 : decode cX7_asks 2 = .ok (.iload_n 1, 1) := by decide +kernel
theorem dX7_asks_3 : decode cX7_asks 3 = .ok (.istore 4, 2) := by decide +kernel
theorem dX7_asks_5 : decode cX7_asks 5 = .ok (.iload_n 1, 1) := by decide +kernel
theorem dX7_asks_6 : decode cX7_asks 6 = .ok (.istore 5, 2) := by decide +kernel
theorem dX7_asks_8 : decode cX7_asks 8 = .ok (.iload 5, 2) := by decide +kernel
theorem dX7_asks_10 : decode cX7_asks 10 = .ok (.iload_n 2, 1) := by decide +kernel
theorem dX7_asks_11 : decode cX7_asks 11 = .ok (.if_icmp .ge 72, 3) := by decide +kernel
theorem dX7_asks_14 : decode cX7_asks 14 = .ok (.iload 4, 2) := by decide +kernel
theorem dX7_asks_16 : decode cX7_asks 16 = .ok (.ifCond .lt 67, 3) := by decide +kernel
theorem dX7_asks_19 : decode cX7_asks 19 = .ok (.iload 4, 2) := by decide +kernel
theorem dX7_asks_21 : decode cX7_asks 21 = .ok (.iload_n 2, 1) := by decide +kernel
theorem dX7_asks_22 : decode cX7_asks 22 = .ok (.if_icmp .ge 61, 3) := by decide +kernel
theorem dX7_asks_25 : decode cX7_asks 25 = .ok (.aload_n 0, 1) := by decide +kernel
theorem dX7_asks_26 : decode cX7_asks 26 = .ok (.iload 4, 2) := by decide +kernel
theorem dX7_asks_28 : decode cX7_asks 28 = .ok (.baload, 1) := by decide +kernel
theorem dX7_asks_29 : decode cX7_asks 29 = .ok (.sipush 255, 3) := by decide +kernel
theorem dX7_asks_32 : decode cX7_asks 32 = .ok (.iand, 1) := by decide +kernel
theorem dX7_asks_33 : decode cX7_asks 33 = .ok (.istore 6, 2) := by decide +kernel
theorem dX7_asks_35 : decode cX7_asks 35 = .ok (.aload_n 0, 1) := by decide +kernel
theorem dX7_asks_36 : decode cX7_asks 36 = .ok (.iload 4, 2) := by decide +kernel
theorem dX7_asks_38 : decode cX7_asks 38 = .ok (.iload_n 2, 1) := by decide +kernel
theorem dX7_asks_39 : decode cX7_asks 39 = .ok (.invokestatic 54, 3) := by decide +kernel
theorem dX7_asks_42 : decode cX7_asks 42 = .ok (.istore 4, 2) := by decide +kernel
theorem dX7_asks_44 : decode cX7_asks 44 = .ok (.iload 6, 2) := by decide +kernel
theorem dX7_asks_46 : decode cX7_asks 46 = .ok (.sipush 172, 3) := by decide +kernel
theorem dX7_asks_49 : decode cX7_asks 49 = .ok (.if_icmp .lt 28, 3) := by decide +kernel
theorem dX7_asks_52 : decode cX7_asks 52 = .ok (.iload 6, 2) := by decide +kernel
theorem dX7_asks_54 : decode cX7_asks 54 = .ok (.sipush 175, 3) := by decide +kernel
theorem dX7_asks_57 : decode cX7_asks 57 = .ok (.if_icmp .gt 20, 3) := by decide +kernel
theorem dX7_asks_60 : decode cX7_asks 60 = .ok (.iload_n 3, 1) := by decide +kernel
theorem dX7_asks_61 : decode cX7_asks 61 = .ok (.iload 6, 2) := by decide +kernel
theorem dX7_asks_63 : decode cX7_asks 63 = .ok (.sipush 174, 3) := by decide +kernel
theorem dX7_asks_66 : decode cX7_asks 66 = .ok (.if_icmp .ge 7, 3) := by decide +kernel
theorem dX7_asks_69 : decode cX7_asks 69 = .ok (.iconst 1, 1) := by decide +kernel
theorem dX7_asks_70 : decode cX7_asks 70 = .ok (.goto 5, 3) := by decide +kernel
theorem dX7_asks_73 : decode cX7_asks 73 = .ok (.bipush 20, 2) := by decide +kernel
theorem dX7_asks_75 : decode cX7_asks 75 = .ok (.iadd, 1) := by decide +kernel
theorem dX7_asks_76 : decode cX7_asks 76 = .ok (.istore_n 3, 1) := by decide +kernel
theorem dX7_asks_77 : decode cX7_asks 77 = .ok (.iinc 5 1, 3) := by decide +kernel
theorem dX7_asks_80 : decode cX7_asks 80 = .ok (.goto (-72), 3) := by decide +kernel
theorem dX7_asks_83 : decode cX7_asks 83 = .ok (.iload_n 3, 1) := by decide +kernel
theorem dX7_asks_84 : decode cX7_asks 84 = .ok (.ireturn, 1) := by decide +kernel
abbrev mX7_unlocks : ks_M := (RX7, cX7_unlocks, 11, (some .boolean), "unlocks")
theorem dX7_unlocks_0 : decode cX7_unlocks 0 = .ok (.aload_n 0, 1) := by decide +kernel
theorem dX7_unlocks_1 : decode cX7_unlocks 1 = .ok (.aload_n 1, 1) := by decide +kernel
theorem dX7_unlocks_2 : decode cX7_unlocks 2 = .ok (.putfield 58, 3) := by decide +kernel
theorem dX7_unlocks_5 : decode cX7_unlocks 5 = .ok (.aload_n 0, 1) := by decide +kernel
theorem dX7_unlocks_6 : decode cX7_unlocks 6 = .ok (.iload_n 2, 1) := by decide +kernel
theorem dX7_unlocks_7 : decode cX7_unlocks 7 = .ok (.putfield 62, 3) := by decide +kernel
theorem dX7_unlocks_10 : decode cX7_unlocks 10 = .ok (.aload_n 0, 1) := by decide +kernel
theorem dX7_unlocks_11 : decode cX7_unlocks 11 = .ok (.getfield 18, 3) := by decide +kernel
theorem dX7_unlocks_14 : decode cX7_unlocks 14 = .ok (.invokevirtual 66, 3) := by decide +kernel
theorem dX7_unlocks_17 : decode cX7_unlocks 17 = .ok (.aload_n 0, 1) := by decide +kernel
theorem dX7_unlocks_18 : decode cX7_unlocks 18 = .ok (.getfield 58, 3) := by decide +kernel
theorem dX7_unlocks_21 : decode cX7_unlocks 21 = .ok (.getfield 69, 3) := by decide +kernel
theorem dX7_unlocks_24 : decode cX7_unlocks 24 = .ok (.aload_n 0, 1) := by decide +kernel
theorem dX7_unlocks_25 : decode cX7_unlocks 25 = .ok (.getfield 62, 3) := by decide +kernel
theorem dX7_unlocks_28 : decode cX7_unlocks 28 = .ok (.iaload, 1) := by decide +kernel
theorem dX7_unlocks_29 : decode cX7_unlocks 29 = .ok (.istore 6, 2) := by decide +kernel
theorem dX7_unlocks_31 : decode cX7_unlocks 31 = .ok (.iload 6, 2) := by decide +kernel
theorem dX7_unlocks_33 : decode cX7_unlocks 33 = .ok (.aload_n 0, 1) := by decide +kernel
theorem dX7_unlocks_34 : decode cX7_unlocks 34 = .ok (.getfield 58, 3) := by decide +kernel
theorem dX7_unlocks_37 : decode cX7_unlocks 37 = .ok (.getfield 75, 3) := by decide +kernel
theorem dX7_unlocks_40 : decode cX7_unlocks 40 = .ok (.aload_n 0, 1) := by decide +kernel
theorem dX7_unlocks_41 : decode cX7_unlocks 41 = .ok (.getfield 62, 3) := by decide +kernel
theorem dX7_unlocks_44 : decode cX7_unlocks 44 = .ok (.iaload, 1) := by decide +kernel
theorem dX7_unlocks_45 : decode cX7_unlocks 45 = .ok (.iadd, 1) := by decide +kernel
theorem dX7_unlocks_46 : decode cX7_unlocks 46 = .ok (.istore 7, 2) := by decide +kernel
theorem dX7_unlocks_48 : decode cX7_unlocks 48 = .ok (.aload_n 0, 1) := by decide +kernel
theorem dX7_unlocks_49 : decode cX7_unlocks 49 = .ok (.aload_n 0, 1) := by decide +kernel
theorem dX7_unlocks_50 : decode cX7_unlocks 50 = .ok (.getfield 58, 3) := by decide +kernel
theorem dX7_unlocks_53 : decode cX7_unlocks 53 = .ok (.getfield 78, 3) := by decide +kernel
theorem dX7_unlocks_56 : decode cX7_unlocks 56 = .ok (.iload 6, 2) := by decide +kernel
theorem dX7_unlocks_58 : decode cX7_unlocks 58 = .ok (.iload 7, 2) := by decide +kernel
theorem dX7_unlocks_60 : decode cX7_unlocks 60 = .ok (.invokevirtual 81, 3) := by decide +kernel
theorem dX7_unlocks_63 : decode cX7_unlocks 63 = .ok (.ifCond .ne 5, 3) := by decide +kernel
theorem dX7_unlocks_66 : decode cX7_unlocks 66 = .ok (.iconst 0, 1) := by decide +kernel
theorem dX7_unlocks_67 : decode cX7_unlocks 67 = .ok (.ireturn, 1) := by decide +kernel
theorem dX7_unlocks_68 : decode cX7_unlocks 68 = .ok (.iload 5, 2) := by decide +kernel
theorem dX7_unlocks_70 : decode cX7_unlocks 70 = .ok (.bipush 23, 2) := by decide +kernel
theorem dX7_unlocks_72 : decode cX7_unlocks 72 = .ok (.if_icmp .ne 39, 3) := by decide +kernel
theorem dX7_unlocks_75 : decode cX7_unlocks 75 = .ok (.aload_n 3, 1) := by decide +kernel
theorem dX7_unlocks_76 : decode cX7_unlocks 76 = .ok (.iload 4, 2) := by decide +kernel
theorem dX7_unlocks_78 : decode cX7_unlocks 78 = .ok (.baload, 1) := by decide +kernel
theorem dX7_unlocks_79 : decode cX7_unlocks 79 = .ok (.bipush (-87), 2) := by decide +kernel
theorem dX7_unlocks_81 : decode cX7_unlocks 81 = .ok (.if_icmp .ne 30, 3) := by decide +kernel
theorem dX7_unlocks_84 : decode cX7_unlocks 84 = .ok (.aload_n 3, 1) := by decide +kernel
theorem dX7_unlocks_85 : decode cX7_unlocks 85 = .ok (.iload 4, 2) := by decide +kernel
theorem dX7_unlocks_87 : decode cX7_unlocks 87 = .ok (.iconst 1, 1) := by decide +kernel
theorem dX7_unlocks_88 : decode cX7_unlocks 88 = .ok (.iadd, 1) := by decide +kernel
theorem dX7_unlocks_89 : decode cX7_unlocks 89 = .ok (.baload, 1) := by decide +kernel
theorem dX7_unlocks_90 : decode cX7_unlocks 90 = .ok (.bipush 20, 2) := by decide +kernel
theorem dX7_unlocks_92 : decode cX7_unlocks 92 = .ok (.if_icmp .ne 19, 3) := by decide +kernel
theorem dX7_unlocks_95 : decode cX7_unlocks 95 = .ok (.aload_n 3, 1) := by decide +kernel
theorem dX7_unlocks_96 : decode cX7_unlocks 96 = .ok (.iload 4, 2) := by decide +kernel
theorem dX7_unlocks_98 : decode cX7_unlocks 98 = .ok (.bipush 22, 2) := by decide +kernel
theorem dX7_unlocks_100 : decode cX7_unlocks 100 = .ok (.iadd, 1) := by decide +kernel
theorem dX7_unlocks_101 : decode cX7_unlocks 101 = .ok (.baload, 1) := by decide +kernel
theorem dX7_unlocks_102 : decode cX7_unlocks 102 = .ok (.bipush (-121), 2) := by decide +kernel
theorem dX7_unlocks_104 : decode cX7_unlocks 104 = .ok (.if_icmp .ne 7, 3) := by decide +kernel
theorem dX7_unlocks_107 : decode cX7_unlocks 107 = .ok (.iconst 1, 1) := by decide +kernel
theorem dX7_unlocks_108 : decode cX7_unlocks 108 = .ok (.goto 4, 3) := by decide +kernel
theorem dX7_unlocks_111 : decode cX7_unlocks 111 = .ok (.iconst 0, 1) := by decide +kernel
theorem dX7_unlocks_112 : decode cX7_unlocks 112 = .ok (.istore 8, 2) := by decide +kernel
theorem dX7_unlocks_114 : decode cX7_unlocks 114 = .ok (.iload 8, 2) := by decide +kernel
theorem dX7_unlocks_116 : decode cX7_unlocks 116 = .ok (.ifCond .eq 32, 3) := by decide +kernel
theorem dX7_unlocks_119 : decode cX7_unlocks 119 = .ok (.aload_n 0, 1) := by decide +kernel
theorem dX7_unlocks_120 : decode cX7_unlocks 120 = .ok (.getfield 18, 3) := by decide +kernel
theorem dX7_unlocks_123 : decode cX7_unlocks 123 = .ok (.getfield 85, 3) := by decide +kernel
theorem dX7_unlocks_126 : decode cX7_unlocks 126 = .ok (.ifCond .eq 20, 3) := by decide +kernel
theorem dX7_unlocks_129 : decode cX7_unlocks 129 = .ok (.aload_n 0, 1) := by decide +kernel
theorem dX7_unlocks_130 : decode cX7_unlocks 130 = .ok (.getfield 58, 3) := by decide +kernel
theorem dX7_unlocks_133 : decode cX7_unlocks 133 = .ok (.getfield 78, 3) := by decide +kernel
theorem dX7_unlocks_136 : decode cX7_unlocks 136 = .ok (.iload 6, 2) := by decide +kernel
theorem dX7_unlocks_138 : decode cX7_unlocks 138 = .ok (.iload 7, 2) := by decide +kernel
theorem dX7_unlocks_140 : decode cX7_unlocks 140 = .ok (.invokestatic 88, 3) := by decide +kernel
theorem dX7_unlocks_143 : decode cX7_unlocks 143 = .ok (.ifCond .ne 5, 3) := by decide +kernel
theorem dX7_unlocks_146 : decode cX7_unlocks 146 = .ok (.iconst 0, 1) := by decide +kernel
theorem dX7_unlocks_147 : decode cX7_unlocks 147 = .ok (.ireturn, 1) := by decide +kernel
theorem dX7_unlocks_148 : decode cX7_unlocks 148 = .ok (.iload 8, 2) := by decide +kernel
theorem dX7_unlocks_150 : decode cX7_unlocks 150 = .ok (.ifCond .eq 23, 3) := by decide +kernel
theorem dX7_unlocks_153 : decode cX7_unlocks 153 = .ok (.aload_n 0, 1) := by decide +kernel
theorem dX7_unlocks_154 : decode cX7_unlocks 154 = .ok (.getfield 18, 3) := by decide +kernel
theorem dX7_unlocks_157 : decode cX7_unlocks 157 = .ok (.getfield 91, 3) := by decide +kernel
theorem dX7_unlocks_160 : decode cX7_unlocks 160 = .ok (.aload_n 0, 1) := by decide +kernel
theorem dX7_unlocks_161 : decode cX7_unlocks 161 = .ok (.getfield 18, 3) := by decide +kernel
theorem dX7_unlocks_164 : decode cX7_unlocks 164 = .ok (.getfield 85, 3) := by decide +kernel
theorem dX7_unlocks_167 : decode cX7_unlocks 167 = .ok (.iconst 1, 1) := by decide +kernel
theorem dX7_unlocks_168 : decode cX7_unlocks 168 = .ok (.isub, 1) := by decide +kernel
theorem dX7_unlocks_169 : decode cX7_unlocks 169 = .ok (.iaload, 1) := by decide +kernel
theorem dX7_unlocks_170 : decode cX7_unlocks 170 = .ok (.goto 4, 3) := by decide +kernel
theorem dX7_unlocks_173 : decode cX7_unlocks 173 = .ok (.iconst 0, 1) := by decide +kernel
theorem dX7_unlocks_174 : decode cX7_unlocks 174 = .ok (.istore 9, 2) := by decide +kernel
theorem dX7_unlocks_176 : decode cX7_unlocks 176 = .ok (.iload 8, 2) := by decide +kernel
theorem dX7_unlocks_178 : decode cX7_unlocks 178 = .ok (.ifCond .eq 23, 3) := by decide +kernel
theorem dX7_unlocks_181 : decode cX7_unlocks 181 = .ok (.aload_n 0, 1) := by decide +kernel
theorem dX7_unlocks_182 : decode cX7_unlocks 182 = .ok (.getfield 18, 3) := by decide +kernel
theorem dX7_unlocks_185 : decode cX7_unlocks 185 = .ok (.getfield 94, 3) := by decide +kernel
theorem dX7_unlocks_188 : decode cX7_unlocks 188 = .ok (.aload_n 0, 1) := by decide +kernel
theorem dX7_unlocks_189 : decode cX7_unlocks 189 = .ok (.getfield 18, 3) := by decide +kernel
theorem dX7_unlocks_192 : decode cX7_unlocks 192 = .ok (.getfield 85, 3) := by decide +kernel
theorem dX7_unlocks_195 : decode cX7_unlocks 195 = .ok (.iconst 1, 1) := by decide +kernel
theorem dX7_unlocks_196 : decode cX7_unlocks 196 = .ok (.isub, 1) := by decide +kernel
theorem dX7_unlocks_197 : decode cX7_unlocks 197 = .ok (.iaload, 1) := by decide +kernel
theorem dX7_unlocks_198 : decode cX7_unlocks 198 = .ok (.goto 4, 3) := by decide +kernel
theorem dX7_unlocks_201 : decode cX7_unlocks 201 = .ok (.iconst 0, 1) := by decide +kernel
theorem dX7_unlocks_202 : decode cX7_unlocks 202 = .ok (.istore 10, 2) := by decide +kernel
theorem dX7_unlocks_204 : decode cX7_unlocks 204 = .ok (.aload_n 0, 1) := by decide +kernel
theorem dX7_unlocks_205 : decode cX7_unlocks 205 = .ok (.aload_n 3, 1) := by decide +kernel
theorem dX7_unlocks_206 : decode cX7_unlocks 206 = .ok (.iload 4, 2) := by decide +kernel
theorem dX7_unlocks_208 : decode cX7_unlocks 208 = .ok (.iload 4, 2) := by decide +kernel
theorem dX7_unlocks_210 : decode cX7_unlocks 210 = .ok (.iload 5, 2) := by decide +kernel
theorem dX7_unlocks_212 : decode cX7_unlocks 212 = .ok (.iadd, 1) := by decide +kernel
theorem dX7_unlocks_213 : decode cX7_unlocks 213 = .ok (.invokevirtual 81, 3) := by decide +kernel
theorem dX7_unlocks_216 : decode cX7_unlocks 216 = .ok (.ifCond .eq 13, 3) := by decide +kernel
theorem dX7_unlocks_219 : decode cX7_unlocks 219 = .ok (.aload_n 0, 1) := by decide +kernel
theorem dX7_unlocks_220 : decode cX7_unlocks 220 = .ok (.getfield 18, 3) := by decide +kernel
theorem dX7_unlocks_223 : decode cX7_unlocks 223 = .ok (.invokevirtual 97, 3) := by decide +kernel
theorem dX7_unlocks_226 : decode cX7_unlocks 226 = .ok (.ifCond .ne 5, 3) := by decide +kernel
theorem dX7_unlocks_229 : decode cX7_unlocks 229 = .ok (.iconst 0, 1) := by decide +kernel
theorem dX7_unlocks_230 : decode cX7_unlocks 230 = .ok (.ireturn, 1) := by decide +kernel
theorem dX7_unlocks_231 : decode cX7_unlocks 231 = .ok (.iload 8, 2) := by decide +kernel
theorem dX7_unlocks_233 : decode cX7_unlocks 233 = .ok (.ifCond .ne 5, 3) := by decide +kernel
theorem dX7_unlocks_236 : decode cX7_unlocks 236 = .ok (.iconst 1, 1) := by decide +kernel
theorem dX7_unlocks_237 : decode cX7_unlocks 237 = .ok (.ireturn, 1) := by decide +kernel
theorem dX7_unlocks_238 : decode cX7_unlocks 238 = .ok (.aload_n 0, 1) := by decide +kernel
theorem dX7_unlocks_239 : decode cX7_unlocks 239 = .ok (.getfield 18, 3) := by decide +kernel
theorem dX7_unlocks_242 : decode cX7_unlocks 242 = .ok (.iconst 1, 1) := by decide +kernel
theorem dX7_unlocks_243 : decode cX7_unlocks 243 = .ok (.invokevirtual 101, 3) := by decide +kernel
theorem dX7_unlocks_246 : decode cX7_unlocks 246 = .ok (.pop, 1) := by decide +kernel
theorem dX7_unlocks_247 : decode cX7_unlocks 247 = .ok (.aload_n 0, 1) := by decide +kernel
theorem dX7_unlocks_248 : decode cX7_unlocks 248 = .ok (.aload_n 0, 1) := by decide +kernel
theorem dX7_unlocks_249 : decode cX7_unlocks 249 = .ok (.getfield 18, 3) := by decide +kernel
theorem dX7_unlocks_252 : decode cX7_unlocks 252 = .ok (.getfield 105, 3) := by decide +kernel
theorem dX7_unlocks_255 : decode cX7_unlocks 255 = .ok (.iload 9, 2) := by decide +kernel
theorem dX7_unlocks_257 : decode cX7_unlocks 257 = .ok (.iload 9, 2) := by decide +kernel
theorem dX7_unlocks_259 : decode cX7_unlocks 259 = .ok (.iload 10, 2) := by decide +kernel
theorem dX7_unlocks_261 : decode cX7_unlocks 261 = .ok (.iadd, 1) := by decide +kernel
theorem dX7_unlocks_262 : decode cX7_unlocks 262 = .ok (.invokevirtual 81, 3) := by decide +kernel
theorem dX7_unlocks_265 : decode cX7_unlocks 265 = .ok (.ifCond .eq 17, 3) := by decide +kernel
theorem dX7_unlocks_268 : decode cX7_unlocks 268 = .ok (.aload_n 0, 1) := by decide +kernel
theorem dX7_unlocks_269 : decode cX7_unlocks 269 = .ok (.getfield 18, 3) := by decide +kernel
theorem dX7_unlocks_272 : decode cX7_unlocks 272 = .ok (.invokevirtual 97, 3) := by decide +kernel
theorem dX7_unlocks_275 : decode cX7_unlocks 275 = .ok (.ifCond .eq 7, 3) := by decide +kernel
theorem dX7_unlocks_278 : decode cX7_unlocks 278 = .ok (.iconst 1, 1) := by decide +kernel
theorem dX7_unlocks_279 : decode cX7_unlocks 279 = .ok (.goto 4, 3) := by decide +kernel
theorem dX7_unlocks_282 : decode cX7_unlocks 282 = .ok (.iconst 0, 1) := by decide +kernel
theorem dX7_unlocks_283 : decode cX7_unlocks 283 = .ok (.ireturn, 1) := by decide +kernel
abbrev mX7_cleanCode : ks_M := (RX7, cX7_cleanCode, 8, none, "cleanCode")
theorem dX7_cleanCode_0 : decode cX7_cleanCode 0 = .ok (.aload_n 0, 1) := by decide +kernel
theorem dX7_cleanCode_1 : decode cX7_cleanCode 1 = .ok (.getfield 31, 3) := by decide +kernel
theorem dX7_cleanCode_4 : decode cX7_cleanCode 4 = .ok (.invokevirtual 108, 3) := by decide +kernel
theorem dX7_cleanCode_7 : decode cX7_cleanCode 7 = .ok (.iload_n 2, 1) := by decide +kernel
theorem dX7_cleanCode_8 : decode cX7_cleanCode 8 = .ok (.istore 5, 2) := by decide +kernel
theorem dX7_cleanCode_10 : decode cX7_cleanCode 10 = .ok (.iload_n 2, 1) := by decide +kernel
theorem dX7_cleanCode_11 : decode cX7_cleanCode 11 = .ok (.istore 6, 2) := by decide +kernel
theorem dX7_cleanCode_13 : decode cX7_cleanCode 13 = .ok (.iload 6, 2) := by decide +kernel
theorem dX7_cleanCode_15 : decode cX7_cleanCode 15 = .ok (.iload_n 3, 1) := by decide +kernel
theorem dX7_cleanCode_16 : decode cX7_cleanCode 16 = .ok (.if_icmp .ge 79, 3) := by decide +kernel
theorem dX7_cleanCode_19 : decode cX7_cleanCode 19 = .ok (.iload 5, 2) := by decide +kernel
theorem dX7_cleanCode_21 : decode cX7_cleanCode 21 = .ok (.iload_n 3, 1) := by decide +kernel
theorem dX7_cleanCode_22 : decode cX7_cleanCode 22 = .ok (.if_icmp .ge 73, 3) := by decide +kernel
theorem dX7_cleanCode_25 : decode cX7_cleanCode 25 = .ok (.aload_n 1, 1) := by decide +kernel
theorem dX7_cleanCode_26 : decode cX7_cleanCode 26 = .ok (.iload 5, 2) := by decide +kernel
theorem dX7_cleanCode_28 : decode cX7_cleanCode 28 = .ok (.iload_n 3, 1) := by decide +kernel
theorem dX7_cleanCode_29 : decode cX7_cleanCode 29 = .ok (.invokestatic 54, 3) := by decide +kernel
theorem dX7_cleanCode_32 : decode cX7_cleanCode 32 = .ok (.istore 7, 2) := by decide +kernel
theorem dX7_cleanCode_34 : decode cX7_cleanCode 34 = .ok (.iload 7, 2) := by decide +kernel
theorem dX7_cleanCode_36 : decode cX7_cleanCode 36 = .ok (.ifCond .ge 6, 3) := by decide +kernel
theorem dX7_cleanCode_39 : decode cX7_cleanCode 39 = .ok (.goto 56, 3) := by decide +kernel
theorem dX7_cleanCode_42 : decode cX7_cleanCode 42 = .ok (.aload_n 1, 1) := by decide +kernel
theorem dX7_cleanCode_43 : decode cX7_cleanCode 43 = .ok (.iload 5, 2) := by decide +kernel
theorem dX7_cleanCode_45 : decode cX7_cleanCode 45 = .ok (.baload, 1) := by decide +kernel
theorem dX7_cleanCode_46 : decode cX7_cleanCode 46 = .ok (.sipush 255, 3) := by decide +kernel
theorem dX7_cleanCode_49 : decode cX7_cleanCode 49 = .ok (.iand, 1) := by decide +kernel
theorem dX7_cleanCode_50 : decode cX7_cleanCode 50 = .ok (.sipush 171, 3) := by decide +kernel
theorem dX7_cleanCode_53 : decode cX7_cleanCode 53 = .ok (.if_icmp .eq 32, 3) := by decide +kernel
theorem dX7_cleanCode_56 : decode cX7_cleanCode 56 = .ok (.aload_n 0, 1) := by decide +kernel
theorem dX7_cleanCode_57 : decode cX7_cleanCode 57 = .ok (.aload_n 1, 1) := by decide +kernel
theorem dX7_cleanCode_58 : decode cX7_cleanCode 58 = .ok (.iload 5, 2) := by decide +kernel
theorem dX7_cleanCode_60 : decode cX7_cleanCode 60 = .ok (.iload 7, 2) := by decide +kernel
theorem dX7_cleanCode_62 : decode cX7_cleanCode 62 = .ok (.iload 4, 2) := by decide +kernel
theorem dX7_cleanCode_64 : decode cX7_cleanCode 64 = .ok (.invokevirtual 109, 3) := by decide +kernel
theorem dX7_cleanCode_67 : decode cX7_cleanCode 67 = .ok (.ifCond .ne 18, 3) := by decide +kernel
theorem dX7_cleanCode_70 : decode cX7_cleanCode 70 = .ok (.aload_n 0, 1) := by decide +kernel
theorem dX7_cleanCode_71 : decode cX7_cleanCode 71 = .ok (.getfield 31, 3) := by decide +kernel
theorem dX7_cleanCode_74 : decode cX7_cleanCode 74 = .ok (.aload_n 1, 1) := by decide +kernel
theorem dX7_cleanCode_75 : decode cX7_cleanCode 75 = .ok (.iload 5, 2) := by decide +kernel
theorem dX7_cleanCode_77 : decode cX7_cleanCode 77 = .ok (.iload 7, 2) := by decide +kernel
theorem dX7_cleanCode_79 : decode cX7_cleanCode 79 = .ok (.iload 5, 2) := by decide +kernel
theorem dX7_cleanCode_81 : decode cX7_cleanCode 81 = .ok (.isub, 1) := by decide +kernel
theorem dX7_cleanCode_82 : decode cX7_cleanCode 82 = .ok (.invokevirtual 113, 3) := by decide +kernel
theorem dX7_cleanCode_85 : decode cX7_cleanCode 85 = .ok (.iload 7, 2) := by decide +kernel
theorem dX7_cleanCode_87 : decode cX7_cleanCode 87 = .ok (.istore 5, 2) := by decide +kernel
theorem dX7_cleanCode_89 : decode cX7_cleanCode 89 = .ok (.iinc 6 1, 3) := by decide +kernel
theorem dX7_cleanCode_92 : decode cX7_cleanCode 92 = .ok (.goto (-79), 3) := by decide +kernel
theorem dX7_cleanCode_95 : decode cX7_cleanCode 95 = .ok (.aload_n 0, 1) := by decide +kernel
theorem dX7_cleanCode_96 : decode cX7_cleanCode 96 = .ok (.getfield 31, 3) := by decide +kernel
theorem dX7_cleanCode_99 : decode cX7_cleanCode 99 = .ok (.aload_n 1, 1) := by decide +kernel
theorem dX7_cleanCode_100 : decode cX7_cleanCode 100 = .ok (.iload 5, 2) := by decide +kernel
theorem dX7_cleanCode_102 : decode cX7_cleanCode 102 = .ok (.iload_n 3, 1) := by decide +kernel
theorem dX7_cleanCode_103 : decode cX7_cleanCode 103 = .ok (.iload 5, 2) := by decide +kernel
theorem dX7_cleanCode_105 : decode cX7_cleanCode 105 = .ok (.isub, 1) := by decide +kernel
theorem dX7_cleanCode_106 : decode cX7_cleanCode 106 = .ok (.invokevirtual 113, 3) := by decide +kernel
theorem dX7_cleanCode_109 : decode cX7_cleanCode 109 = .ok (.return_, 1) := by decide +kernel
abbrev mX7_nameSigned : ks_M := (RX7, cX7_nameSigned, 4, none, "nameSigned")
theorem dX7_nameSigned_0 : decode cX7_nameSigned 0 = .ok (.aload_n 1, 1) := by decide +kernel
theorem dX7_nameSigned_1 : decode cX7_nameSigned 1 = .ok (.aload_n 0, 1) := by decide +kernel
theorem dX7_nameSigned_2 : decode cX7_nameSigned 2 = .ok (.getfield 35, 3) := by decide +kernel
theorem dX7_nameSigned_5 : decode cX7_nameSigned 5 = .ok (.iload_n 2, 1) := by decide +kernel
theorem dX7_nameSigned_6 : decode cX7_nameSigned 6 = .ok (.iload_n 3, 1) := by decide +kernel
theorem dX7_nameSigned_7 : decode cX7_nameSigned 7 = .ok (.aload_n 0, 1) := by decide +kernel
theorem dX7_nameSigned_8 : decode cX7_nameSigned 8 = .ok (.getfield 31, 3) := by decide +kernel
theorem dX7_nameSigned_11 : decode cX7_nameSigned 11 = .ok (.invokevirtual 117, 3) := by decide +kernel
theorem dX7_nameSigned_14 : decode cX7_nameSigned 14 = .ok (.ifCond .eq 52, 3) := by decide +kernel
theorem dX7_nameSigned_17 : decode cX7_nameSigned 17 = .ok (.aload_n 0, 1) := by decide +kernel
theorem dX7_nameSigned_18 : decode cX7_nameSigned 18 = .ok (.getfield 38, 3) := by decide +kernel
theorem dX7_nameSigned_21 : decode cX7_nameSigned 21 = .ok (.aload_n 0, 1) := by decide +kernel
theorem dX7_nameSigned_22 : decode cX7_nameSigned 22 = .ok (.getfield 35, 3) := by decide +kernel
theorem dX7_nameSigned_25 : decode cX7_nameSigned 25 = .ok (.getfield 121, 3) := by decide +kernel
theorem dX7_nameSigned_28 : decode cX7_nameSigned 28 = .ok (.iconst 0, 1) := by decide +kernel
theorem dX7_nameSigned_29 : decode cX7_nameSigned 29 = .ok (.aload_n 0, 1) := by decide +kernel
theorem dX7_nameSigned_30 : decode cX7_nameSigned 30 = .ok (.getfield 35, 3) := by decide +kernel
theorem dX7_nameSigned_33 : decode cX7_nameSigned 33 = .ok (.getfield 122, 3) := by decide +kernel
theorem dX7_nameSigned_36 : decode cX7_nameSigned 36 = .ok (.aload_n 0, 1) := by decide +kernel
theorem dX7_nameSigned_37 : decode cX7_nameSigned 37 = .ok (.getfield 9, 3) := by decide +kernel
theorem dX7_nameSigned_40 : decode cX7_nameSigned 40 = .ok (.iconst 0, 1) := by decide +kernel
theorem dX7_nameSigned_41 : decode cX7_nameSigned 41 = .ok (.invokevirtual 125, 3) := by decide +kernel
theorem dX7_nameSigned_44 : decode cX7_nameSigned 44 = .ok (.aload_n 0, 1) := by decide +kernel
theorem dX7_nameSigned_45 : decode cX7_nameSigned 45 = .ok (.getfield 38, 3) := by decide +kernel
theorem dX7_nameSigned_48 : decode cX7_nameSigned 48 = .ok (.aload_n 0, 1) := by decide +kernel
theorem dX7_nameSigned_49 : decode cX7_nameSigned 49 = .ok (.getfield 9, 3) := by decide +kernel
theorem dX7_nameSigned_52 : decode cX7_nameSigned 52 = .ok (.iconst 0, 1) := by decide +kernel
theorem dX7_nameSigned_53 : decode cX7_nameSigned 53 = .ok (.bipush 32, 2) := by decide +kernel
theorem dX7_nameSigned_55 : decode cX7_nameSigned 55 = .ok (.aload_n 0, 1) := by decide +kernel
theorem dX7_nameSigned_56 : decode cX7_nameSigned 56 = .ok (.getfield 9, 3) := by decide +kernel
theorem dX7_nameSigned_59 : decode cX7_nameSigned 59 = .ok (.iconst 0, 1) := by decide +kernel
theorem dX7_nameSigned_60 : decode cX7_nameSigned 60 = .ok (.invokevirtual 125, 3) := by decide +kernel
theorem dX7_nameSigned_63 : decode cX7_nameSigned 63 = .ok (.goto 18, 3) := by decide +kernel
theorem dX7_nameSigned_66 : decode cX7_nameSigned 66 = .ok (.aload_n 0, 1) := by decide +kernel
theorem dX7_nameSigned_67 : decode cX7_nameSigned 67 = .ok (.getfield 9, 3) := by decide +kernel
theorem dX7_nameSigned_70 : decode cX7_nameSigned 70 = .ok (.iconst 0, 1) := by decide +kernel
theorem dX7_nameSigned_71 : decode cX7_nameSigned 71 = .ok (.invokestatic 131, 3) := by decide +kernel
theorem dX7_nameSigned_74 : decode cX7_nameSigned 74 = .ok (.aload_n 0, 1) := by decide +kernel
theorem dX7_nameSigned_75 : decode cX7_nameSigned 75 = .ok (.getfield 9, 3) := by decide +kernel
theorem dX7_nameSigned_78 : decode cX7_nameSigned 78 = .ok (.iconst 0, 1) := by decide +kernel
theorem dX7_nameSigned_79 : decode cX7_nameSigned 79 = .ok (.iconst 1, 1) := by decide +kernel
theorem dX7_nameSigned_80 : decode cX7_nameSigned 80 = .ok (.bastore, 1) := by decide +kernel
theorem dX7_nameSigned_81 : decode cX7_nameSigned 81 = .ok (.return_, 1) := by decide +kernel
abbrev mX7_run : ks_M := (RX7, cX7_run, 9, (some .boolean), "run")
theorem dX7_run_0 : decode cX7_run 0 = .ok (.aload_n 0, 1) := by decide +kernel
theorem dX7_run_1 : decode cX7_run 1 = .ok (.aload_n 1, 1) := by decide +kernel
theorem dX7_run_2 : decode cX7_run 2 = .ok (.putfield 137, 3) := by decide +kernel
theorem dX7_run_5 : decode cX7_run 5 = .ok (.aload_n 0, 1) := by decide +kernel
theorem dX7_run_6 : decode cX7_run 6 = .ok (.iload_n 2, 1) := by decide +kernel
theorem dX7_run_7 : decode cX7_run 7 = .ok (.putfield 140, 3) := by decide +kernel
theorem dX7_run_10 : decode cX7_run 10 = .ok (.aload_n 0, 1) := by decide +kernel
theorem dX7_run_11 : decode cX7_run 11 = .ok (.iload_n 3, 1) := by decide +kernel
theorem dX7_run_12 : decode cX7_run 12 = .ok (.putfield 142, 3) := by decide +kernel
theorem dX7_run_15 : decode cX7_run 15 = .ok (.aload_n 0, 1) := by decide +kernel
theorem dX7_run_16 : decode cX7_run 16 = .ok (.iload_n 2, 1) := by decide +kernel
theorem dX7_run_17 : decode cX7_run 17 = .ok (.putfield 145, 3) := by decide +kernel
theorem dX7_run_20 : decode cX7_run 20 = .ok (.aload_n 0, 1) := by decide +kernel
theorem dX7_run_21 : decode cX7_run 21 = .ok (.iconst 0, 1) := by decide +kernel
theorem dX7_run_22 : decode cX7_run 22 = .ok (.putfield 148, 3) := by decide +kernel
theorem dX7_run_25 : decode cX7_run 25 = .ok (.aload_n 0, 1) := by decide +kernel
theorem dX7_run_26 : decode cX7_run 26 = .ok (.iconst 0, 1) := by decide +kernel
theorem dX7_run_27 : decode cX7_run 27 = .ok (.putfield 151, 3) := by decide +kernel
theorem dX7_run_30 : decode cX7_run 30 = .ok (.aload_n 0, 1) := by decide +kernel
theorem dX7_run_31 : decode cX7_run 31 = .ok (.iconst 0, 1) := by decide +kernel
theorem dX7_run_32 : decode cX7_run 32 = .ok (.putfield 154, 3) := by decide +kernel
theorem dX7_run_35 : decode cX7_run 35 = .ok (.aload_n 0, 1) := by decide +kernel
theorem dX7_run_36 : decode cX7_run 36 = .ok (.getfield 18, 3) := by decide +kernel
theorem dX7_run_39 : decode cX7_run 39 = .ok (.invokevirtual 157, 3) := by decide +kernel
theorem dX7_run_42 : decode cX7_run 42 = .ok (.iload_n 2, 1) := by decide +kernel
theorem dX7_run_43 : decode cX7_run 43 = .ok (.istore 4, 2) := by decide +kernel
theorem dX7_run_45 : decode cX7_run 45 = .ok (.iload 4, 2) := by decide +kernel
theorem dX7_run_47 : decode cX7_run 47 = .ok (.iload_n 3, 1) := by decide +kernel
theorem dX7_run_48 : decode cX7_run 48 = .ok (.if_icmp .ge 242, 3) := by decide +kernel
theorem dX7_run_51 : decode cX7_run 51 = .ok (.aload_n 0, 1) := by decide +kernel
theorem dX7_run_52 : decode cX7_run 52 = .ok (.getfield 140, 3) := by decide +kernel
theorem dX7_run_55 : decode cX7_run 55 = .ok (.iload_n 3, 1) := by decide +kernel
theorem dX7_run_56 : decode cX7_run 56 = .ok (.if_icmp .ge 234, 3) := by decide +kernel
theorem dX7_run_59 : decode cX7_run 59 = .ok (.aload_n 0, 1) := by decide +kernel
theorem dX7_run_60 : decode cX7_run 60 = .ok (.getfield 137, 3) := by decide +kernel
theorem dX7_run_63 : decode cX7_run 63 = .ok (.aload_n 0, 1) := by decide +kernel
theorem dX7_run_64 : decode cX7_run 64 = .ok (.getfield 140, 3) := by decide +kernel
theorem dX7_run_67 : decode cX7_run 67 = .ok (.aload_n 0, 1) := by decide +kernel
theorem dX7_run_68 : decode cX7_run 68 = .ok (.getfield 142, 3) := by decide +kernel
theorem dX7_run_71 : decode cX7_run 71 = .ok (.invokestatic 54, 3) := by decide +kernel
theorem dX7_run_74 : decode cX7_run 74 = .ok (.istore 5, 2) := by decide +kernel
theorem dX7_run_76 : decode cX7_run 76 = .ok (.iload 5, 2) := by decide +kernel
theorem dX7_run_78 : decode cX7_run 78 = .ok (.ifCond .ge 5, 3) := by decide +kernel
theorem dX7_run_81 : decode cX7_run 81 = .ok (.iconst 0, 1) := by decide +kernel
theorem dX7_run_82 : decode cX7_run 82 = .ok (.ireturn, 1) := by decide +kernel
theorem dX7_run_83 : decode cX7_run 83 = .ok (.aload_n 0, 1) := by decide +kernel
theorem dX7_run_84 : decode cX7_run 84 = .ok (.getfield 137, 3) := by decide +kernel
theorem dX7_run_87 : decode cX7_run 87 = .ok (.aload_n 0, 1) := by decide +kernel
theorem dX7_run_88 : decode cX7_run 88 = .ok (.getfield 140, 3) := by decide +kernel
theorem dX7_run_91 : decode cX7_run 91 = .ok (.baload, 1) := by decide +kernel
theorem dX7_run_92 : decode cX7_run 92 = .ok (.sipush 255, 3) := by decide +kernel
theorem dX7_run_95 : decode cX7_run 95 = .ok (.iand, 1) := by decide +kernel
theorem dX7_run_96 : decode cX7_run 96 = .ok (.istore 6, 2) := by decide +kernel
theorem dX7_run_98 : decode cX7_run 98 = .ok (.aload_n 0, 1) := by decide +kernel
theorem dX7_run_99 : decode cX7_run 99 = .ok (.getfield 140, 3) := by decide +kernel
theorem dX7_run_102 : decode cX7_run 102 = .ok (.iload 6, 2) := by decide +kernel
theorem dX7_run_104 : decode cX7_run 104 = .ok (.invokestatic 46, 3) := by decide +kernel
theorem dX7_run_107 : decode cX7_run 107 = .ok (.iadd, 1) := by decide +kernel
theorem dX7_run_108 : decode cX7_run 108 = .ok (.istore 7, 2) := by decide +kernel
theorem dX7_run_110 : decode cX7_run 110 = .ok (.aload_n 0, 1) := by decide +kernel
theorem dX7_run_111 : decode cX7_run 111 = .ok (.iload 5, 2) := by decide +kernel
theorem dX7_run_113 : decode cX7_run 113 = .ok (.putfield 140, 3) := by decide +kernel
theorem dX7_run_116 : decode cX7_run 116 = .ok (.aload_n 0, 1) := by decide +kernel
theorem dX7_run_117 : decode cX7_run 117 = .ok (.iload 6, 2) := by decide +kernel
theorem dX7_run_119 : decode cX7_run 119 = .ok (.iload 5, 2) := by decide +kernel
theorem dX7_run_121 : decode cX7_run 121 = .ok (.iload 7, 2) := by decide +kernel
theorem dX7_run_123 : decode cX7_run 123 = .ok (.isub, 1) := by decide +kernel
theorem dX7_run_124 : decode cX7_run 124 = .ok (.invokevirtual 160, 3) := by decide +kernel
theorem dX7_run_127 : decode cX7_run 127 = .ok (.ifCond .ne 5, 3) := by decide +kernel
theorem dX7_run_130 : decode cX7_run 130 = .ok (.iconst 0, 1) := by decide +kernel
theorem dX7_run_131 : decode cX7_run 131 = .ok (.ireturn, 1) := by decide +kernel
theorem dX7_run_132 : decode cX7_run 132 = .ok (.iconst 1, 1) := by decide +kernel
theorem dX7_run_133 : decode cX7_run 133 = .ok (.istore 8, 2) := by decide +kernel
theorem dX7_run_135 : decode cX7_run 135 = .ok (.iload 6, 2) := by decide +kernel
theorem dX7_run_137 : decode cX7_run 137 = .ok (.bipush 99, 2) := by decide +kernel
theorem dX7_run_139 : decode cX7_run 139 = .ok (.if_icmp .lt 21, 3) := by decide +kernel
theorem dX7_run_142 : decode cX7_run 142 = .ok (.iload 6, 2) := by decide +kernel
theorem dX7_run_144 : decode cX7_run 144 = .ok (.bipush 104, 2) := by decide +kernel
theorem dX7_run_146 : decode cX7_run 146 = .ok (.if_icmp .gt 14, 3) := by decide +kernel
theorem dX7_run_149 : decode cX7_run 149 = .ok (.aload_n 0, 1) := by decide +kernel
theorem dX7_run_150 : decode cX7_run 150 = .ok (.iload 6, 2) := by decide +kernel
theorem dX7_run_152 : decode cX7_run 152 = .ok (.invokevirtual 164, 3) := by decide +kernel
theorem dX7_run_155 : decode cX7_run 155 = .ok (.istore 8, 2) := by decide +kernel
theorem dX7_run_157 : decode cX7_run 157 = .ok (.goto 110, 3) := by decide +kernel
theorem dX7_run_160 : decode cX7_run 160 = .ok (.aload_n 0, 1) := by decide +kernel
theorem dX7_run_161 : decode cX7_run 161 = .ok (.getfield 154, 3) := by decide +kernel
theorem dX7_run_164 : decode cX7_run 164 = .ok (.ifCond .ne 103, 3) := by decide +kernel
theorem dX7_run_167 : decode cX7_run 167 = .ok (.iload 6, 2) := by decide +kernel
theorem dX7_run_169 : decode cX7_run 169 = .ok (.bipush 78, 2) := by decide +kernel
theorem dX7_run_171 : decode cX7_run 171 = .ok (.if_icmp .gt 26, 3) := by decide +kernel
theorem dX7_run_174 : decode cX7_run 174 = .ok (.aload_n 0, 1) := by decide +kernel
theorem dX7_run_175 : decode cX7_run 175 = .ok (.getfield 18, 3) := by decide +kernel
theorem dX7_run_178 : decode cX7_run 178 = .ok (.aload_n 0, 1) := by decide +kernel
theorem dX7_run_179 : decode cX7_run 179 = .ok (.getfield 137, 3) := by decide +kernel
theorem dX7_run_182 : decode cX7_run 182 = .ok (.iload 7, 2) := by decide +kernel
theorem dX7_run_184 : decode cX7_run 184 = .ok (.iload 5, 2) := by decide +kernel
theorem dX7_run_186 : decode cX7_run 186 = .ok (.iload 7, 2) := by decide +kernel
theorem dX7_run_188 : decode cX7_run 188 = .ok (.isub, 1) := by decide +kernel
theorem dX7_run_189 : decode cX7_run 189 = .ok (.invokevirtual 167, 3) := by decide +kernel
theorem dX7_run_192 : decode cX7_run 192 = .ok (.istore 8, 2) := by decide +kernel
theorem dX7_run_194 : decode cX7_run 194 = .ok (.goto 73, 3) := by decide +kernel
theorem dX7_run_197 : decode cX7_run 197 = .ok (.iload 6, 2) := by decide +kernel
theorem dX7_run_199 : decode cX7_run 199 = .ok (.sipush 172, 3) := by decide +kernel
theorem dX7_run_202 : decode cX7_run 202 = .ok (.if_icmp .lt 22, 3) := by decide +kernel
theorem dX7_run_205 : decode cX7_run 205 = .ok (.iload 6, 2) := by decide +kernel
theorem dX7_run_207 : decode cX7_run 207 = .ok (.sipush 175, 3) := by decide +kernel
theorem dX7_run_210 : decode cX7_run 210 = .ok (.if_icmp .gt 14, 3) := by decide +kernel
theorem dX7_run_213 : decode cX7_run 213 = .ok (.aload_n 0, 1) := by decide +kernel
theorem dX7_run_214 : decode cX7_run 214 = .ok (.iload 6, 2) := by decide +kernel
theorem dX7_run_216 : decode cX7_run 216 = .ok (.invokevirtual 170, 3) := by decide +kernel
theorem dX7_run_219 : decode cX7_run 219 = .ok (.istore 8, 2) := by decide +kernel
theorem dX7_run_221 : decode cX7_run 221 = .ok (.goto 46, 3) := by decide +kernel
theorem dX7_run_224 : decode cX7_run 224 = .ok (.iload 6, 2) := by decide +kernel
theorem dX7_run_226 : decode cX7_run 226 = .ok (.sipush 166, 3) := by decide +kernel
theorem dX7_run_229 : decode cX7_run 229 = .ok (.if_icmp .eq 19, 3) := by decide +kernel
theorem dX7_run_232 : decode cX7_run 232 = .ok (.iload 6, 2) := by decide +kernel
theorem dX7_run_234 : decode cX7_run 234 = .ok (.sipush 168, 3) := by decide +kernel
theorem dX7_run_237 : decode cX7_run 237 = .ok (.if_icmp .lt 22, 3) := by decide +kernel
theorem dX7_run_240 : decode cX7_run 240 = .ok (.iload 6, 2) := by decide +kernel
theorem dX7_run_242 : decode cX7_run 242 = .ok (.sipush 170, 3) := by decide +kernel
theorem dX7_run_245 : decode cX7_run 245 = .ok (.if_icmp .gt 14, 3) := by decide +kernel
theorem dX7_run_248 : decode cX7_run 248 = .ok (.aload_n 0, 1) := by decide +kernel
theorem dX7_run_249 : decode cX7_run 249 = .ok (.iload 6, 2) := by decide +kernel
theorem dX7_run_251 : decode cX7_run 251 = .ok (.invokevirtual 173, 3) := by decide +kernel
theorem dX7_run_254 : decode cX7_run 254 = .ok (.istore 8, 2) := by decide +kernel
theorem dX7_run_256 : decode cX7_run 256 = .ok (.goto 11, 3) := by decide +kernel
theorem dX7_run_259 : decode cX7_run 259 = .ok (.aload_n 0, 1) := by decide +kernel
theorem dX7_run_260 : decode cX7_run 260 = .ok (.iload 6, 2) := by decide +kernel
theorem dX7_run_262 : decode cX7_run 262 = .ok (.invokevirtual 176, 3) := by decide +kernel
theorem dX7_run_265 : decode cX7_run 265 = .ok (.istore 8, 2) := by decide +kernel
theorem dX7_run_267 : decode cX7_run 267 = .ok (.iload 8, 2) := by decide +kernel
theorem dX7_run_269 : decode cX7_run 269 = .ok (.ifCond .eq 13, 3) := by decide +kernel
theorem dX7_run_272 : decode cX7_run 272 = .ok (.aload_n 0, 1) := by decide +kernel
theorem dX7_run_273 : decode cX7_run 273 = .ok (.getfield 18, 3) := by decide +kernel
theorem dX7_run_276 : decode cX7_run 276 = .ok (.invokevirtual 179, 3) := by decide +kernel
theorem dX7_run_279 : decode cX7_run 279 = .ok (.ifCond .eq 5, 3) := by decide +kernel
theorem dX7_run_282 : decode cX7_run 282 = .ok (.iconst 0, 1) := by decide +kernel
theorem dX7_run_283 : decode cX7_run 283 = .ok (.ireturn, 1) := by decide +kernel
theorem dX7_run_284 : decode cX7_run 284 = .ok (.iinc 4 1, 3) := by decide +kernel
theorem dX7_run_287 : decode cX7_run 287 = .ok (.goto (-242), 3) := by decide +kernel
theorem dX7_run_290 : decode cX7_run 290 = .ok (.aload_n 0, 1) := by decide +kernel
theorem dX7_run_291 : decode cX7_run 291 = .ok (.getfield 151, 3) := by decide +kernel
theorem dX7_run_294 : decode cX7_run 294 = .ok (.ifCond .ne 7, 3) := by decide +kernel
theorem dX7_run_297 : decode cX7_run 297 = .ok (.iconst 1, 1) := by decide +kernel
theorem dX7_run_298 : decode cX7_run 298 = .ok (.goto 4, 3) := by decide +kernel
theorem dX7_run_301 : decode cX7_run 301 = .ok (.iconst 0, 1) := by decide +kernel
theorem dX7_run_302 : decode cX7_run 302 = .ok (.ireturn, 1) := by decide +kernel
abbrev mX7_isAllowed : ks_M := (RX7, cX7_isAllowed, 4, (some .boolean), "isAllowed")
theorem dX7_isAllowed_0 : decode cX7_isAllowed 0 = .ok (.iload_n 1, 1) := by decide +kernel
theorem dX7_isAllowed_1 : decode cX7_isAllowed 1 = .ok (.bipush 78, 2) := by decide +kernel
theorem dX7_isAllowed_3 : decode cX7_isAllowed 3 = .ok (.if_icmp .gt 16, 3) := by decide +kernel
theorem dX7_isAllowed_6 : decode cX7_isAllowed 6 = .ok (.iload_n 2, 1) := by decide +kernel
theorem dX7_isAllowed_7 : decode cX7_isAllowed 7 = .ok (.sipush 520, 3) := by decide +kernel
theorem dX7_isAllowed_10 : decode cX7_isAllowed 10 = .ok (.if_icmp .gt 7, 3) := by decide +kernel
theorem dX7_isAllowed_13 : decode cX7_isAllowed 13 = .ok (.iconst 1, 1) := by decide +kernel
theorem dX7_isAllowed_14 : decode cX7_isAllowed 14 = .ok (.goto 4, 3) := by decide +kernel
theorem dX7_isAllowed_17 : decode cX7_isAllowed 17 = .ok (.iconst 0, 1) := by decide +kernel
theorem dX7_isAllowed_18 : decode cX7_isAllowed 18 = .ok (.ireturn, 1) := by decide +kernel
theorem dX7_isAllowed_19 : decode cX7_isAllowed 19 = .ok (.iload_n 1, 1) := by decide +kernel
theorem dX7_isAllowed_20 : decode cX7_isAllowed 20 = .ok (.bipush 96, 2) := by decide +kernel
theorem dX7_isAllowed_22 : decode cX7_isAllowed 22 = .ok (.if_icmp .le 13, 3) := by decide +kernel
theorem dX7_isAllowed_25 : decode cX7_isAllowed 25 = .ok (.aload_n 0, 1) := by decide +kernel
theorem dX7_isAllowed_26 : decode cX7_isAllowed 26 = .ok (.dup, 1) := by decide +kernel
theorem dX7_isAllowed_27 : decode cX7_isAllowed 27 = .ok (.getfield 148, 3) := by decide +kernel
theorem dX7_isAllowed_30 : decode cX7_isAllowed 30 = .ok (.iconst 1, 1) := by decide +kernel
theorem dX7_isAllowed_31 : decode cX7_isAllowed 31 = .ok (.iadd, 1) := by decide +kernel
theorem dX7_isAllowed_32 : decode cX7_isAllowed 32 = .ok (.putfield 148, 3) := by decide +kernel
theorem dX7_isAllowed_35 : decode cX7_isAllowed 35 = .ok (.iload_n 1, 1) := by decide +kernel
theorem dX7_isAllowed_36 : decode cX7_isAllowed 36 = .ok (.bipush 126, 2) := by decide +kernel
theorem dX7_isAllowed_38 : decode cX7_isAllowed 38 = .ok (.if_icmp .lt 10, 3) := by decide +kernel
theorem dX7_isAllowed_41 : decode cX7_isAllowed 41 = .ok (.iload_n 1, 1) := by decide +kernel
theorem dX7_isAllowed_42 : decode cX7_isAllowed 42 = .ok (.sipush 129, 3) := by decide +kernel
theorem dX7_isAllowed_45 : decode cX7_isAllowed 45 = .ok (.if_icmp .le 57, 3) := by decide +kernel
theorem dX7_isAllowed_48 : decode cX7_isAllowed 48 = .ok (.iload_n 1, 1) := by decide +kernel
theorem dX7_isAllowed_49 : decode cX7_isAllowed 49 = .ok (.sipush 131, 3) := by decide +kernel
theorem dX7_isAllowed_52 : decode cX7_isAllowed 52 = .ok (.if_icmp .lt 10, 3) := by decide +kernel
theorem dX7_isAllowed_55 : decode cX7_isAllowed 55 = .ok (.iload_n 1, 1) := by decide +kernel
theorem dX7_isAllowed_56 : decode cX7_isAllowed 56 = .ok (.sipush 134, 3) := by decide +kernel
theorem dX7_isAllowed_59 : decode cX7_isAllowed 59 = .ok (.if_icmp .le 43, 3) := by decide +kernel
theorem dX7_isAllowed_62 : decode cX7_isAllowed 62 = .ok (.iload_n 1, 1) := by decide +kernel
theorem dX7_isAllowed_63 : decode cX7_isAllowed 63 = .ok (.sipush 141, 3) := by decide +kernel
theorem dX7_isAllowed_66 : decode cX7_isAllowed 66 = .ok (.if_icmp .eq 36, 3) := by decide +kernel
theorem dX7_isAllowed_69 : decode cX7_isAllowed 69 = .ok (.iload_n 1, 1) := by decide +kernel
theorem dX7_isAllowed_70 : decode cX7_isAllowed 70 = .ok (.sipush 142, 3) := by decide +kernel
theorem dX7_isAllowed_73 : decode cX7_isAllowed 73 = .ok (.if_icmp .eq 29, 3) := by decide +kernel
theorem dX7_isAllowed_76 : decode cX7_isAllowed 76 = .ok (.iload_n 1, 1) := by decide +kernel
theorem dX7_isAllowed_77 : decode cX7_isAllowed 77 = .ok (.sipush 149, 3) := by decide +kernel
theorem dX7_isAllowed_80 : decode cX7_isAllowed 80 = .ok (.if_icmp .lt 10, 3) := by decide +kernel
theorem dX7_isAllowed_83 : decode cX7_isAllowed 83 = .ok (.iload_n 1, 1) := by decide +kernel
theorem dX7_isAllowed_84 : decode cX7_isAllowed 84 = .ok (.sipush 153, 3) := by decide +kernel
theorem dX7_isAllowed_87 : decode cX7_isAllowed 87 = .ok (.if_icmp .le 15, 3) := by decide +kernel
theorem dX7_isAllowed_90 : decode cX7_isAllowed 90 = .ok (.iload_n 1, 1) := by decide +kernel
theorem dX7_isAllowed_91 : decode cX7_isAllowed 91 = .ok (.bipush 101, 2) := by decide +kernel
theorem dX7_isAllowed_93 : decode cX7_isAllowed 93 = .ok (.if_icmp .eq 9, 3) := by decide +kernel
theorem dX7_isAllowed_96 : decode cX7_isAllowed 96 = .ok (.iload_n 1, 1) := by decide +kernel
theorem dX7_isAllowed_97 : decode cX7_isAllowed 97 = .ok (.bipush 102, 2) := by decide +kernel
theorem dX7_isAllowed_99 : decode cX7_isAllowed 99 = .ok (.if_icmp .ne 7, 3) := by decide +kernel
theorem dX7_isAllowed_102 : decode cX7_isAllowed 102 = .ok (.iconst 1, 1) := by decide +kernel
theorem dX7_isAllowed_103 : decode cX7_isAllowed 103 = .ok (.goto 4, 3) := by decide +kernel
theorem dX7_isAllowed_106 : decode cX7_isAllowed 106 = .ok (.iconst 0, 1) := by decide +kernel
theorem dX7_isAllowed_107 : decode cX7_isAllowed 107 = .ok (.istore_n 3, 1) := by decide +kernel
theorem dX7_isAllowed_108 : decode cX7_isAllowed 108 = .ok (.aload_n 0, 1) := by decide +kernel
theorem dX7_isAllowed_109 : decode cX7_isAllowed 109 = .ok (.getfield 148, 3) := by decide +kernel
theorem dX7_isAllowed_112 : decode cX7_isAllowed 112 = .ok (.sipush 201, 3) := by decide +kernel
theorem dX7_isAllowed_115 : decode cX7_isAllowed 115 = .ok (.if_icmp .gt 11, 3) := by decide +kernel
theorem dX7_isAllowed_118 : decode cX7_isAllowed 118 = .ok (.iload_n 3, 1) := by decide +kernel
theorem dX7_isAllowed_119 : decode cX7_isAllowed 119 = .ok (.ifCond .ne 7, 3) := by decide +kernel
theorem dX7_isAllowed_122 : decode cX7_isAllowed 122 = .ok (.iconst 1, 1) := by decide +kernel
theorem dX7_isAllowed_123 : decode cX7_isAllowed 123 = .ok (.goto 4, 3) := by decide +kernel
theorem dX7_isAllowed_126 : decode cX7_isAllowed 126 = .ok (.iconst 0, 1) := by decide +kernel
theorem dX7_isAllowed_127 : decode cX7_isAllowed 127 = .ok (.ireturn, 1) := by decide +kernel
abbrev mX7_hasPushesAlone : ks_M := (RX7, cX7_hasPushesAlone, 5, (some .boolean), "hasPushesAlone")
theorem dX7_hasPushesAlone_0 : decode cX7_hasPushesAlone 0 = .ok (.iload_n 1, 1) := by decide +kernel
theorem dX7_hasPushesAlone_1 : decode cX7_hasPushesAlone 1 = .ok (.istore_n 3, 1) := by decide +kernel
theorem dX7_hasPushesAlone_2 : decode cX7_hasPushesAlone 2 = .ok (.iload_n 1, 1) := by decide +kernel
theorem dX7_hasPushesAlone_3 : decode cX7_hasPushesAlone 3 = .ok (.istore 4, 2) := by decide +kernel
theorem dX7_hasPushesAlone_5 : decode cX7_hasPushesAlone 5 = .ok (.iload 4, 2) := by decide +kernel
theorem dX7_hasPushesAlone_7 : decode cX7_hasPushesAlone 7 = .ok (.iload_n 2, 1) := by decide +kernel
theorem dX7_hasPushesAlone_8 : decode cX7_hasPushesAlone 8 = .ok (.if_icmp .ge 39, 3) := by decide +kernel
theorem dX7_hasPushesAlone_11 : decode cX7_hasPushesAlone 11 = .ok (.iload_n 3, 1) := by decide +kernel
theorem dX7_hasPushesAlone_12 : decode cX7_hasPushesAlone 12 = .ok (.ifCond .lt 35, 3) := by decide +kernel
theorem dX7_hasPushesAlone_15 : decode cX7_hasPushesAlone 15 = .ok (.iload_n 3, 1) := by decide +kernel
theorem dX7_hasPushesAlone_16 : decode cX7_hasPushesAlone 16 = .ok (.iload_n 2, 1) := by decide +kernel
theorem dX7_hasPushesAlone_17 : decode cX7_hasPushesAlone 17 = .ok (.if_icmp .ge 30, 3) := by decide +kernel
theorem dX7_hasPushesAlone_20 : decode cX7_hasPushesAlone 20 = .ok (.aload_n 0, 1) := by decide +kernel
theorem dX7_hasPushesAlone_21 : decode cX7_hasPushesAlone 21 = .ok (.iload_n 3, 1) := by decide +kernel
theorem dX7_hasPushesAlone_22 : decode cX7_hasPushesAlone 22 = .ok (.baload, 1) := by decide +kernel
theorem dX7_hasPushesAlone_23 : decode cX7_hasPushesAlone 23 = .ok (.sipush 255, 3) := by decide +kernel
theorem dX7_hasPushesAlone_26 : decode cX7_hasPushesAlone 26 = .ok (.iand, 1) := by decide +kernel
theorem dX7_hasPushesAlone_27 : decode cX7_hasPushesAlone 27 = .ok (.bipush 96, 2) := by decide +kernel
theorem dX7_hasPushesAlone_29 : decode cX7_hasPushesAlone 29 = .ok (.if_icmp .le 5, 3) := by decide +kernel
theorem dX7_hasPushesAlone_32 : decode cX7_hasPushesAlone 32 = .ok (.iconst 0, 1) := by decide +kernel
theorem dX7_hasPushesAlone_33 : decode cX7_hasPushesAlone 33 = .ok (.ireturn, 1) := by decide +kernel
theorem dX7_hasPushesAlone_34 : decode cX7_hasPushesAlone 34 = .ok (.aload_n 0, 1) := by decide +kernel
theorem dX7_hasPushesAlone_35 : decode cX7_hasPushesAlone 35 = .ok (.iload_n 3, 1) := by decide +kernel
theorem dX7_hasPushesAlone_36 : decode cX7_hasPushesAlone 36 = .ok (.iload_n 2, 1) := by decide +kernel
theorem dX7_hasPushesAlone_37 : decode cX7_hasPushesAlone 37 = .ok (.invokestatic 54, 3) := by decide +kernel
theorem dX7_hasPushesAlone_40 : decode cX7_hasPushesAlone 40 = .ok (.istore_n 3, 1) := by decide +kernel
theorem dX7_hasPushesAlone_41 : decode cX7_hasPushesAlone 41 = .ok (.iinc 4 1, 3) := by decide +kernel
theorem dX7_hasPushesAlone_44 : decode cX7_hasPushesAlone 44 = .ok (.goto (-39), 3) := by decide +kernel
theorem dX7_hasPushesAlone_47 : decode cX7_hasPushesAlone 47 = .ok (.iload_n 3, 1) := by decide +kernel
theorem dX7_hasPushesAlone_48 : decode cX7_hasPushesAlone 48 = .ok (.ifCond .lt 7, 3) := by decide +kernel
theorem dX7_hasPushesAlone_51 : decode cX7_hasPushesAlone 51 = .ok (.iconst 1, 1) := by decide +kernel
theorem dX7_hasPushesAlone_52 : decode cX7_hasPushesAlone 52 = .ok (.goto 4, 3) := by decide +kernel
theorem dX7_hasPushesAlone_55 : decode cX7_hasPushesAlone 55 = .ok (.iconst 0, 1) := by decide +kernel
theorem dX7_hasPushesAlone_56 : decode cX7_hasPushesAlone 56 = .ok (.ireturn, 1) := by decide +kernel
abbrev mX7_branch : ks_M := (RX7, cX7_branch, 3, (some .boolean), "branch")
theorem dX7_branch_0 : decode cX7_branch 0 = .ok (.iload_n 1, 1) := by decide +kernel
theorem dX7_branch_1 : decode cX7_branch 1 = .ok (.bipush 99, 2) := by decide +kernel
theorem dX7_branch_3 : decode cX7_branch 3 = .ok (.if_icmp .eq 9, 3) := by decide +kernel
theorem dX7_branch_6 : decode cX7_branch 6 = .ok (.iload_n 1, 1) := by decide +kernel
theorem dX7_branch_7 : decode cX7_branch 7 = .ok (.bipush 100, 2) := by decide +kernel
theorem dX7_branch_9 : decode cX7_branch 9 = .ok (.if_icmp .ne 130, 3) := by decide +kernel
theorem dX7_branch_12 : decode cX7_branch 12 = .ok (.aload_n 0, 1) := by decide +kernel
theorem dX7_branch_13 : decode cX7_branch 13 = .ok (.getfield 154, 3) := by decide +kernel
theorem dX7_branch_16 : decode cX7_branch 16 = .ok (.ifCond .ne 13, 3) := by decide +kernel
theorem dX7_branch_19 : decode cX7_branch 19 = .ok (.aload_n 0, 1) := by decide +kernel
theorem dX7_branch_20 : decode cX7_branch 20 = .ok (.getfield 18, 3) := by decide +kernel
theorem dX7_branch_23 : decode cX7_branch 23 = .ok (.getfield 85, 3) := by decide +kernel
theorem dX7_branch_26 : decode cX7_branch 26 = .ok (.ifCond .eq 15, 3) := by decide +kernel
theorem dX7_branch_29 : decode cX7_branch 29 = .ok (.aload_n 0, 1) := by decide +kernel
theorem dX7_branch_30 : decode cX7_branch 30 = .ok (.getfield 151, 3) := by decide +kernel
theorem dX7_branch_33 : decode cX7_branch 33 = .ok (.aload_n 0, 1) := by decide +kernel
theorem dX7_branch_34 : decode cX7_branch 34 = .ok (.getfield 22, 3) := by decide +kernel
theorem dX7_branch_37 : decode cX7_branch 37 = .ok (.arraylength, 1) := by decide +kernel
theorem dX7_branch_38 : decode cX7_branch 38 = .ok (.if_icmp .lt 5, 3) := by decide +kernel
theorem dX7_branch_41 : decode cX7_branch 41 = .ok (.iconst 0, 1) := by decide +kernel
theorem dX7_branch_42 : decode cX7_branch 42 = .ok (.ireturn, 1) := by decide +kernel
theorem dX7_branch_43 : decode cX7_branch 43 = .ok (.aload_n 0, 1) := by decide +kernel
theorem dX7_branch_44 : decode cX7_branch 44 = .ok (.getfield 22, 3) := by decide +kernel
theorem dX7_branch_47 : decode cX7_branch 47 = .ok (.aload_n 0, 1) := by decide +kernel
theorem dX7_branch_48 : decode cX7_branch 48 = .ok (.getfield 151, 3) := by decide +kernel
theorem dX7_branch_51 : decode cX7_branch 51 = .ok (.aload_n 0, 1) := by decide +kernel
theorem dX7_branch_52 : decode cX7_branch 52 = .ok (.getfield 154, 3) := by decide +kernel
theorem dX7_branch_55 : decode cX7_branch 55 = .ok (.ifCond .ne 28, 3) := by decide +kernel
theorem dX7_branch_58 : decode cX7_branch 58 = .ok (.aload_n 0, 1) := by decide +kernel
theorem dX7_branch_59 : decode cX7_branch 59 = .ok (.getfield 18, 3) := by decide +kernel
theorem dX7_branch_62 : decode cX7_branch 62 = .ok (.invokevirtual 97, 3) := by decide +kernel
theorem dX7_branch_65 : decode cX7_branch 65 = .ok (.iload_n 1, 1) := by decide +kernel
theorem dX7_branch_66 : decode cX7_branch 66 = .ok (.bipush 99, 2) := by decide +kernel
theorem dX7_branch_68 : decode cX7_branch 68 = .ok (.if_icmp .ne 7, 3) := by decide +kernel
theorem dX7_branch_71 : decode cX7_branch 71 = .ok (.iconst 1, 1) := by decide +kernel
theorem dX7_branch_72 : decode cX7_branch 72 = .ok (.goto 4, 3) := by decide +kernel
theorem dX7_branch_75 : decode cX7_branch 75 = .ok (.iconst 0, 1) := by decide +kernel
theorem dX7_branch_76 : decode cX7_branch 76 = .ok (.if_icmp .ne 7, 3) := by decide +kernel
theorem dX7_branch_79 : decode cX7_branch 79 = .ok (.iconst 1, 1) := by decide +kernel
theorem dX7_branch_80 : decode cX7_branch 80 = .ok (.goto 4, 3) := by decide +kernel
theorem dX7_branch_83 : decode cX7_branch 83 = .ok (.iconst 0, 1) := by decide +kernel
theorem dX7_branch_84 : decode cX7_branch 84 = .ok (.bastore, 1) := by decide +kernel
theorem dX7_branch_85 : decode cX7_branch 85 = .ok (.aload_n 0, 1) := by decide +kernel
theorem dX7_branch_86 : decode cX7_branch 86 = .ok (.getfield 154, 3) := by decide +kernel
theorem dX7_branch_89 : decode cX7_branch 89 = .ok (.ifCond .ne 12, 3) := by decide +kernel
theorem dX7_branch_92 : decode cX7_branch 92 = .ok (.aload_n 0, 1) := by decide +kernel
theorem dX7_branch_93 : decode cX7_branch 93 = .ok (.getfield 18, 3) := by decide +kernel
theorem dX7_branch_96 : decode cX7_branch 96 = .ok (.iconst 1, 1) := by decide +kernel
theorem dX7_branch_97 : decode cX7_branch 97 = .ok (.invokevirtual 101, 3) := by decide +kernel
theorem dX7_branch_100 : decode cX7_branch 100 = .ok (.pop, 1) := by decide +kernel
theorem dX7_branch_101 : decode cX7_branch 101 = .ok (.aload_n 0, 1) := by decide +kernel
theorem dX7_branch_102 : decode cX7_branch 102 = .ok (.dup, 1) := by decide +kernel
theorem dX7_branch_103 : decode cX7_branch 103 = .ok (.getfield 154, 3) := by decide +kernel
theorem dX7_branch_106 : decode cX7_branch 106 = .ok (.aload_n 0, 1) := by decide +kernel
theorem dX7_branch_107 : decode cX7_branch 107 = .ok (.getfield 22, 3) := by decide +kernel
theorem dX7_branch_110 : decode cX7_branch 110 = .ok (.aload_n 0, 1) := by decide +kernel
theorem dX7_branch_111 : decode cX7_branch 111 = .ok (.getfield 151, 3) := by decide +kernel
theorem dX7_branch_114 : decode cX7_branch 114 = .ok (.baload, 1) := by decide +kernel
theorem dX7_branch_115 : decode cX7_branch 115 = .ok (.ifCond .eq 7, 3) := by decide +kernel
theorem dX7_branch_118 : decode cX7_branch 118 = .ok (.iconst 0, 1) := by decide +kernel
theorem dX7_branch_119 : decode cX7_branch 119 = .ok (.goto 4, 3) := by decide +kernel
theorem dX7_branch_122 : decode cX7_branch 122 = .ok (.iconst 1, 1) := by decide +kernel
theorem dX7_branch_123 : decode cX7_branch 123 = .ok (.iadd, 1) := by decide +kernel
theorem dX7_branch_124 : decode cX7_branch 124 = .ok (.putfield 154, 3) := by decide +kernel
theorem dX7_branch_127 : decode cX7_branch 127 = .ok (.aload_n 0, 1) := by decide +kernel
theorem dX7_branch_128 : decode cX7_branch 128 = .ok (.dup, 1) := by decide +kernel
theorem dX7_branch_129 : decode cX7_branch 129 = .ok (.getfield 151, 3) := by decide +kernel
theorem dX7_branch_132 : decode cX7_branch 132 = .ok (.iconst 1, 1) := by decide +kernel
theorem dX7_branch_133 : decode cX7_branch 133 = .ok (.iadd, 1) := by decide +kernel
theorem dX7_branch_134 : decode cX7_branch 134 = .ok (.putfield 151, 3) := by decide +kernel
theorem dX7_branch_137 : decode cX7_branch 137 = .ok (.iconst 1, 1) := by decide +kernel
theorem dX7_branch_138 : decode cX7_branch 138 = .ok (.ireturn, 1) := by decide +kernel
theorem dX7_branch_139 : decode cX7_branch 139 = .ok (.aload_n 0, 1) := by decide +kernel
theorem dX7_branch_140 : decode cX7_branch 140 = .ok (.getfield 151, 3) := by decide +kernel
theorem dX7_branch_143 : decode cX7_branch 143 = .ok (.ifCond .ne 5, 3) := by decide +kernel
theorem dX7_branch_146 : decode cX7_branch 146 = .ok (.iconst 0, 1) := by decide +kernel
theorem dX7_branch_147 : decode cX7_branch 147 = .ok (.ireturn, 1) := by decide +kernel
theorem dX7_branch_148 : decode cX7_branch 148 = .ok (.aload_n 0, 1) := by decide +kernel
theorem dX7_branch_149 : decode cX7_branch 149 = .ok (.getfield 22, 3) := by decide +kernel
theorem dX7_branch_152 : decode cX7_branch 152 = .ok (.aload_n 0, 1) := by decide +kernel
theorem dX7_branch_153 : decode cX7_branch 153 = .ok (.getfield 151, 3) := by decide +kernel
theorem dX7_branch_156 : decode cX7_branch 156 = .ok (.iconst 1, 1) := by decide +kernel
theorem dX7_branch_157 : decode cX7_branch 157 = .ok (.isub, 1) := by decide +kernel
theorem dX7_branch_158 : decode cX7_branch 158 = .ok (.baload, 1) := by decide +kernel
theorem dX7_branch_159 : decode cX7_branch 159 = .ok (.istore_n 2, 1) := by decide +kernel
theorem dX7_branch_160 : decode cX7_branch 160 = .ok (.aload_n 0, 1) := by decide +kernel
theorem dX7_branch_161 : decode cX7_branch 161 = .ok (.dup, 1) := by decide +kernel
theorem dX7_branch_162 : decode cX7_branch 162 = .ok (.getfield 154, 3) := by decide +kernel
theorem dX7_branch_165 : decode cX7_branch 165 = .ok (.iload_n 2, 1) := by decide +kernel
theorem dX7_branch_166 : decode cX7_branch 166 = .ok (.ifCond .eq 7, 3) := by decide +kernel
theorem dX7_branch_169 : decode cX7_branch 169 = .ok (.iconst 0, 1) := by decide +kernel
theorem dX7_branch_170 : decode cX7_branch 170 = .ok (.goto 4, 3) := by decide +kernel
theorem dX7_branch_173 : decode cX7_branch 173 = .ok (.iconst 1, 1) := by decide +kernel
theorem dX7_branch_174 : decode cX7_branch 174 = .ok (.isub, 1) := by decide +kernel
theorem dX7_branch_175 : decode cX7_branch 175 = .ok (.putfield 154, 3) := by decide +kernel
theorem dX7_branch_178 : decode cX7_branch 178 = .ok (.iload_n 1, 1) := by decide +kernel
theorem dX7_branch_179 : decode cX7_branch 179 = .ok (.bipush 104, 2) := by decide +kernel
theorem dX7_branch_181 : decode cX7_branch 181 = .ok (.if_icmp .ne 16, 3) := by decide +kernel
theorem dX7_branch_184 : decode cX7_branch 184 = .ok (.aload_n 0, 1) := by decide +kernel
theorem dX7_branch_185 : decode cX7_branch 185 = .ok (.dup, 1) := by decide +kernel
theorem dX7_branch_186 : decode cX7_branch 186 = .ok (.getfield 151, 3) := by decide +kernel
theorem dX7_branch_189 : decode cX7_branch 189 = .ok (.iconst 1, 1) := by decide +kernel
theorem dX7_branch_190 : decode cX7_branch 190 = .ok (.isub, 1) := by decide +kernel
theorem dX7_branch_191 : decode cX7_branch 191 = .ok (.putfield 151, 3) := by decide +kernel
theorem dX7_branch_194 : decode cX7_branch 194 = .ok (.goto 41, 3) := by decide +kernel
theorem dX7_branch_197 : decode cX7_branch 197 = .ok (.aload_n 0, 1) := by decide +kernel
theorem dX7_branch_198 : decode cX7_branch 198 = .ok (.getfield 22, 3) := by decide +kernel
theorem dX7_branch_201 : decode cX7_branch 201 = .ok (.aload_n 0, 1) := by decide +kernel
theorem dX7_branch_202 : decode cX7_branch 202 = .ok (.getfield 151, 3) := by decide +kernel
theorem dX7_branch_205 : decode cX7_branch 205 = .ok (.iconst 1, 1) := by decide +kernel
theorem dX7_branch_206 : decode cX7_branch 206 = .ok (.isub, 1) := by decide +kernel
theorem dX7_branch_207 : decode cX7_branch 207 = .ok (.iload_n 2, 1) := by decide +kernel
theorem dX7_branch_208 : decode cX7_branch 208 = .ok (.ifCond .ne 7, 3) := by decide +kernel
theorem dX7_branch_211 : decode cX7_branch 211 = .ok (.iconst 1, 1) := by decide +kernel
theorem dX7_branch_212 : decode cX7_branch 212 = .ok (.goto 4, 3) := by decide +kernel
theorem dX7_branch_215 : decode cX7_branch 215 = .ok (.iconst 0, 1) := by decide +kernel
theorem dX7_branch_216 : decode cX7_branch 216 = .ok (.bastore, 1) := by decide +kernel
theorem dX7_branch_217 : decode cX7_branch 217 = .ok (.aload_n 0, 1) := by decide +kernel
theorem dX7_branch_218 : decode cX7_branch 218 = .ok (.dup, 1) := by decide +kernel
theorem dX7_branch_219 : decode cX7_branch 219 = .ok (.getfield 154, 3) := by decide +kernel
theorem dX7_branch_222 : decode cX7_branch 222 = .ok (.iload_n 2, 1) := by decide +kernel
theorem dX7_branch_223 : decode cX7_branch 223 = .ok (.ifCond .eq 7, 3) := by decide +kernel
theorem dX7_branch_226 : decode cX7_branch 226 = .ok (.iconst 1, 1) := by decide +kernel
theorem dX7_branch_227 : decode cX7_branch 227 = .ok (.goto 4, 3) := by decide +kernel
theorem dX7_branch_230 : decode cX7_branch 230 = .ok (.iconst 0, 1) := by decide +kernel
theorem dX7_branch_231 : decode cX7_branch 231 = .ok (.iadd, 1) := by decide +kernel
theorem dX7_branch_232 : decode cX7_branch 232 = .ok (.putfield 154, 3) := by decide +kernel
theorem dX7_branch_235 : decode cX7_branch 235 = .ok (.iconst 1, 1) := by decide +kernel
theorem dX7_branch_236 : decode cX7_branch 236 = .ok (.ireturn, 1) := by decide +kernel
abbrev mX7_perform : ks_M := (RX7, cX7_perform, 2, (some .boolean), "perform")
theorem dX7_perform_0 : decode cX7_perform 0 = .ok (.iload_n 1, 1) := by decide +kernel
theorem dX7_perform_1 : decode cX7_perform 1 = .ok (.bipush 79, 2) := by decide +kernel
theorem dX7_perform_3 : decode cX7_perform 3 = .ok (.if_icmp .eq 15, 3) := by decide +kernel
theorem dX7_perform_6 : decode cX7_perform 6 = .ok (.iload_n 1, 1) := by decide +kernel
theorem dX7_perform_7 : decode cX7_perform 7 = .ok (.bipush 81, 2) := by decide +kernel
theorem dX7_perform_9 : decode cX7_perform 9 = .ok (.if_icmp .lt 22, 3) := by decide +kernel
theorem dX7_perform_12 : decode cX7_perform 12 = .ok (.iload_n 1, 1) := by decide +kernel
theorem dX7_perform_13 : decode cX7_perform 13 = .ok (.bipush 96, 2) := by decide +kernel
theorem dX7_perform_15 : decode cX7_perform 15 = .ok (.if_icmp .gt 16, 3) := by decide +kernel
theorem dX7_perform_18 : decode cX7_perform 18 = .ok (.aload_n 0, 1) := by decide +kernel
theorem dX7_perform_19 : decode cX7_perform 19 = .ok (.getfield 18, 3) := by decide +kernel
theorem dX7_perform_22 : decode cX7_perform 22 = .ok (.iload_n 1, 1) := by decide +kernel
theorem dX7_perform_23 : decode cX7_perform 23 = .ok (.bipush 80, 2) := by decide +kernel
theorem dX7_perform_25 : decode cX7_perform 25 = .ok (.isub, 1) := by decide +kernel
theorem dX7_perform_26 : decode cX7_perform 26 = .ok (.i2l, 1) := by decide +kernel
theorem dX7_perform_27 : decode cX7_perform 27 = .ok (.invokevirtual 182, 3) := by decide +kernel
theorem dX7_perform_30 : decode cX7_perform 30 = .ok (.ireturn, 1) := by decide +kernel
theorem dX7_perform_31 : decode cX7_perform 31 = .ok (.iload_n 1, 1) := by decide +kernel
theorem dX7_perform_32 : decode cX7_perform 32 = .ok (.bipush 107, 2) := by decide +kernel
theorem dX7_perform_34 : decode cX7_perform 34 = .ok (.if_icmp .lt 15, 3) := by decide +kernel
theorem dX7_perform_37 : decode cX7_perform 37 = .ok (.iload_n 1, 1) := by decide +kernel
theorem dX7_perform_38 : decode cX7_perform 38 = .ok (.bipush 125, 2) := by decide +kernel
theorem dX7_perform_40 : decode cX7_perform 40 = .ok (.if_icmp .gt 9, 3) := by decide +kernel
theorem dX7_perform_43 : decode cX7_perform 43 = .ok (.aload_n 0, 1) := by decide +kernel
theorem dX7_perform_44 : decode cX7_perform 44 = .ok (.iload_n 1, 1) := by decide +kernel
theorem dX7_perform_45 : decode cX7_perform 45 = .ok (.invokevirtual 186, 3) := by decide +kernel
theorem dX7_perform_48 : decode cX7_perform 48 = .ok (.ireturn, 1) := by decide +kernel
theorem dX7_perform_49 : decode cX7_perform 49 = .ok (.iload_n 1, 1) := by decide +kernel
theorem dX7_perform_50 : decode cX7_perform 50 = .ok (.sipush 139, 3) := by decide +kernel
theorem dX7_perform_53 : decode cX7_perform 53 = .ok (.if_icmp .lt 16, 3) := by decide +kernel
theorem dX7_perform_56 : decode cX7_perform 56 = .ok (.iload_n 1, 1) := by decide +kernel
theorem dX7_perform_57 : decode cX7_perform 57 = .ok (.sipush 165, 3) := by decide +kernel
theorem dX7_perform_60 : decode cX7_perform 60 = .ok (.if_icmp .gt 9, 3) := by decide +kernel
theorem dX7_perform_63 : decode cX7_perform 63 = .ok (.aload_n 0, 1) := by decide +kernel
theorem dX7_perform_64 : decode cX7_perform 64 = .ok (.iload_n 1, 1) := by decide +kernel
theorem dX7_perform_65 : decode cX7_perform 65 = .ok (.invokevirtual 189, 3) := by decide +kernel
theorem dX7_perform_68 : decode cX7_perform 68 = .ok (.ireturn, 1) := by decide +kernel
theorem dX7_perform_69 : decode cX7_perform 69 = .ok (.iload_n 1, 1) := by decide +kernel
theorem dX7_perform_70 : decode cX7_perform 70 = .ok (.lookupswitch 182 #[(105, 58), (130, 63), (135, 107), (136, 112), (171, 132), (177, 142)], 58) := by decide +kernel
theorem dX7_perform_128 : decode cX7_perform 128 = .ok (.aload_n 0, 1) := by decide +kernel
theorem dX7_perform_129 : decode cX7_perform 129 = .ok (.invokevirtual 192, 3) := by decide +kernel
theorem dX7_perform_132 : decode cX7_perform 132 = .ok (.ireturn, 1) := by decide +kernel
theorem dX7_perform_133 : decode cX7_perform 133 = .ok (.aload_n 0, 1) := by decide +kernel
theorem dX7_perform_134 : decode cX7_perform 134 = .ok (.getfield 18, 3) := by decide +kernel
theorem dX7_perform_137 : decode cX7_perform 137 = .ok (.getfield 85, 3) := by decide +kernel
theorem dX7_perform_140 : decode cX7_perform 140 = .ok (.ifCond .le 35, 3) := by decide +kernel
theorem dX7_perform_143 : decode cX7_perform 143 = .ok (.aload_n 0, 1) := by decide +kernel
theorem dX7_perform_144 : decode cX7_perform 144 = .ok (.getfield 18, 3) := by decide +kernel
theorem dX7_perform_147 : decode cX7_perform 147 = .ok (.aload_n 0, 1) := by decide +kernel
theorem dX7_perform_148 : decode cX7_perform 148 = .ok (.getfield 18, 3) := by decide +kernel
theorem dX7_perform_151 : decode cX7_perform 151 = .ok (.getfield 94, 3) := by decide +kernel
theorem dX7_perform_154 : decode cX7_perform 154 = .ok (.aload_n 0, 1) := by decide +kernel
theorem dX7_perform_155 : decode cX7_perform 155 = .ok (.getfield 18, 3) := by decide +kernel
theorem dX7_perform_158 : decode cX7_perform 158 = .ok (.getfield 85, 3) := by decide +kernel
theorem dX7_perform_161 : decode cX7_perform 161 = .ok (.iconst 1, 1) := by decide +kernel
theorem dX7_perform_162 : decode cX7_perform 162 = .ok (.isub, 1) := by decide +kernel
theorem dX7_perform_163 : decode cX7_perform 163 = .ok (.iaload, 1) := by decide +kernel
theorem dX7_perform_164 : decode cX7_perform 164 = .ok (.i2l, 1) := by decide +kernel
theorem dX7_perform_165 : decode cX7_perform 165 = .ok (.invokevirtual 182, 3) := by decide +kernel
theorem dX7_perform_168 : decode cX7_perform 168 = .ok (.ifCond .eq 7, 3) := by decide +kernel
theorem dX7_perform_171 : decode cX7_perform 171 = .ok (.iconst 1, 1) := by decide +kernel
theorem dX7_perform_172 : decode cX7_perform 172 = .ok (.goto 4, 3) := by decide +kernel
theorem dX7_perform_175 : decode cX7_perform 175 = .ok (.iconst 0, 1) := by decide +kernel
theorem dX7_perform_176 : decode cX7_perform 176 = .ok (.ireturn, 1) := by decide +kernel
theorem dX7_perform_177 : decode cX7_perform 177 = .ok (.aload_n 0, 1) := by decide +kernel
theorem dX7_perform_178 : decode cX7_perform 178 = .ok (.invokevirtual 195, 3) := by decide +kernel
theorem dX7_perform_181 : decode cX7_perform 181 = .ok (.ireturn, 1) := by decide +kernel
theorem dX7_perform_182 : decode cX7_perform 182 = .ok (.aload_n 0, 1) := by decide +kernel
theorem dX7_perform_183 : decode cX7_perform 183 = .ok (.invokevirtual 195, 3) := by decide +kernel
theorem dX7_perform_186 : decode cX7_perform 186 = .ok (.ifCond .eq 14, 3) := by decide +kernel
theorem dX7_perform_189 : decode cX7_perform 189 = .ok (.aload_n 0, 1) := by decide +kernel
theorem dX7_perform_190 : decode cX7_perform 190 = .ok (.invokevirtual 192, 3) := by decide +kernel
theorem dX7_perform_193 : decode cX7_perform 193 = .ok (.ifCond .eq 7, 3) := by decide +kernel
theorem dX7_perform_196 : decode cX7_perform 196 = .ok (.iconst 1, 1) := by decide +kernel
theorem dX7_perform_197 : decode cX7_perform 197 = .ok (.goto 4, 3) := by decide +kernel
theorem dX7_perform_200 : decode cX7_perform 200 = .ok (.iconst 0, 1) := by decide +kernel
theorem dX7_perform_201 : decode cX7_perform 201 = .ok (.ireturn, 1) := by decide +kernel
theorem dX7_perform_202 : decode cX7_perform 202 = .ok (.aload_n 0, 1) := by decide +kernel
theorem dX7_perform_203 : decode cX7_perform 203 = .ok (.aload_n 0, 1) := by decide +kernel
theorem dX7_perform_204 : decode cX7_perform 204 = .ok (.getfield 140, 3) := by decide +kernel
theorem dX7_perform_207 : decode cX7_perform 207 = .ok (.putfield 145, 3) := by decide +kernel
theorem dX7_perform_210 : decode cX7_perform 210 = .ok (.iconst 1, 1) := by decide +kernel
theorem dX7_perform_211 : decode cX7_perform 211 = .ok (.ireturn, 1) := by decide +kernel
theorem dX7_perform_212 : decode cX7_perform 212 = .ok (.aload_n 0, 1) := by decide +kernel
theorem dX7_perform_213 : decode cX7_perform 213 = .ok (.getfield 18, 3) := by decide +kernel
theorem dX7_perform_216 : decode cX7_perform 216 = .ok (.iconst 0, 1) := by decide +kernel
theorem dX7_perform_217 : decode cX7_perform 217 = .ok (.iconst 5, 1) := by decide +kernel
theorem dX7_perform_218 : decode cX7_perform 218 = .ok (.invokevirtual 198, 3) := by decide +kernel
theorem dX7_perform_221 : decode cX7_perform 221 = .ok (.ifCond .eq 29, 3) := by decide +kernel
theorem dX7_perform_224 : decode cX7_perform 224 = .ok (.aload_n 0, 1) := by decide +kernel
theorem dX7_perform_225 : decode cX7_perform 225 = .ok (.getfield 58, 3) := by decide +kernel
theorem dX7_perform_228 : decode cX7_perform 228 = .ok (.aload_n 0, 1) := by decide +kernel
theorem dX7_perform_229 : decode cX7_perform 229 = .ok (.getfield 18, 3) := by decide +kernel
theorem dX7_perform_232 : decode cX7_perform 232 = .ok (.iconst 0, 1) := by decide +kernel
theorem dX7_perform_233 : decode cX7_perform 233 = .ok (.invokevirtual 201, 3) := by decide +kernel
theorem dX7_perform_236 : decode cX7_perform 236 = .ok (.aload_n 0, 1) := by decide +kernel
theorem dX7_perform_237 : decode cX7_perform 237 = .ok (.getfield 62, 3) := by decide +kernel
theorem dX7_perform_240 : decode cX7_perform 240 = .ok (.invokevirtual 204, 3) := by decide +kernel
theorem dX7_perform_243 : decode cX7_perform 243 = .ok (.ifCond .eq 7, 3) := by decide +kernel
theorem dX7_perform_246 : decode cX7_perform 246 = .ok (.iconst 1, 1) := by decide +kernel
theorem dX7_perform_247 : decode cX7_perform 247 = .ok (.goto 4, 3) := by decide +kernel
theorem dX7_perform_250 : decode cX7_perform 250 = .ok (.iconst 0, 1) := by decide +kernel
theorem dX7_perform_251 : decode cX7_perform 251 = .ok (.ireturn, 1) := by decide +kernel
theorem dX7_perform_252 : decode cX7_perform 252 = .ok (.iload_n 1, 1) := by decide +kernel
theorem dX7_perform_253 : decode cX7_perform 253 = .ok (.bipush 97, 2) := by decide +kernel
theorem dX7_perform_255 : decode cX7_perform 255 = .ok (.if_icmp .eq 24, 3) := by decide +kernel
theorem dX7_perform_258 : decode cX7_perform 258 = .ok (.iload_n 1, 1) := by decide +kernel
theorem dX7_perform_259 : decode cX7_perform 259 = .ok (.sipush 176, 3) := by decide +kernel
theorem dX7_perform_262 : decode cX7_perform 262 = .ok (.if_icmp .eq 17, 3) := by decide +kernel
theorem dX7_perform_265 : decode cX7_perform 265 = .ok (.iload_n 1, 1) := by decide +kernel
theorem dX7_perform_266 : decode cX7_perform 266 = .ok (.sipush 178, 3) := by decide +kernel
theorem dX7_perform_269 : decode cX7_perform 269 = .ok (.if_icmp .lt 14, 3) := by decide +kernel
theorem dX7_perform_272 : decode cX7_perform 272 = .ok (.iload_n 1, 1) := by decide +kernel
theorem dX7_perform_273 : decode cX7_perform 273 = .ok (.sipush 185, 3) := by decide +kernel
theorem dX7_perform_276 : decode cX7_perform 276 = .ok (.if_icmp .gt 7, 3) := by decide +kernel
theorem dX7_perform_279 : decode cX7_perform 279 = .ok (.iconst 1, 1) := by decide +kernel
theorem dX7_perform_280 : decode cX7_perform 280 = .ok (.goto 4, 3) := by decide +kernel
theorem dX7_perform_283 : decode cX7_perform 283 = .ok (.iconst 0, 1) := by decide +kernel
theorem dX7_perform_284 : decode cX7_perform 284 = .ok (.ireturn, 1) := by decide +kernel
abbrev mX7_verify : ks_M := (RX7, cX7_verify, 2, (some .boolean), "verify")
theorem dX7_verify_0 : decode cX7_verify 0 = .ok (.aload_n 0, 1) := by decide +kernel
theorem dX7_verify_1 : decode cX7_verify 1 = .ok (.getfield 18, 3) := by decide +kernel
theorem dX7_verify_4 : decode cX7_verify 4 = .ok (.invokevirtual 97, 3) := by decide +kernel
theorem dX7_verify_7 : decode cX7_verify 7 = .ok (.istore_n 1, 1) := by decide +kernel
theorem dX7_verify_8 : decode cX7_verify 8 = .ok (.iload_n 1, 1) := by decide +kernel
theorem dX7_verify_9 : decode cX7_verify 9 = .ok (.ifCond .eq 18, 3) := by decide +kernel
theorem dX7_verify_12 : decode cX7_verify 12 = .ok (.aload_n 0, 1) := by decide +kernel
theorem dX7_verify_13 : decode cX7_verify 13 = .ok (.getfield 18, 3) := by decide +kernel
theorem dX7_verify_16 : decode cX7_verify 16 = .ok (.iconst 1, 1) := by decide +kernel
theorem dX7_verify_17 : decode cX7_verify 17 = .ok (.invokevirtual 101, 3) := by decide +kernel
theorem dX7_verify_20 : decode cX7_verify 20 = .ok (.ifCond .eq 7, 3) := by decide +kernel
theorem dX7_verify_23 : decode cX7_verify 23 = .ok (.iconst 1, 1) := by decide +kernel
theorem dX7_verify_24 : decode cX7_verify 24 = .ok (.goto 4, 3) := by decide +kernel
theorem dX7_verify_27 : decode cX7_verify 27 = .ok (.iconst 0, 1) := by decide +kernel
theorem dX7_verify_28 : decode cX7_verify 28 = .ok (.ireturn, 1) := by decide +kernel
abbrev mX7_compare : ks_M := (RX7, cX7_compare, 2, (some .boolean), "compare")
theorem dX7_compare_0 : decode cX7_compare 0 = .ok (.aload_n 0, 1) := by decide +kernel
theorem dX7_compare_1 : decode cX7_compare 1 = .ok (.getfield 18, 3) := by decide +kernel
theorem dX7_compare_4 : decode cX7_compare 4 = .ok (.getfield 85, 3) := by decide +kernel
theorem dX7_compare_7 : decode cX7_compare 7 = .ok (.iconst 2, 1) := by decide +kernel
theorem dX7_compare_8 : decode cX7_compare 8 = .ok (.if_icmp .ge 5, 3) := by decide +kernel
theorem dX7_compare_11 : decode cX7_compare 11 = .ok (.iconst 0, 1) := by decide +kernel
theorem dX7_compare_12 : decode cX7_compare 12 = .ok (.ireturn, 1) := by decide +kernel
theorem dX7_compare_13 : decode cX7_compare 13 = .ok (.aload_n 0, 1) := by decide +kernel
theorem dX7_compare_14 : decode cX7_compare 14 = .ok (.getfield 18, 3) := by decide +kernel
theorem dX7_compare_17 : decode cX7_compare 17 = .ok (.invokevirtual 208, 3) := by decide +kernel
theorem dX7_compare_20 : decode cX7_compare 20 = .ok (.istore_n 1, 1) := by decide +kernel
theorem dX7_compare_21 : decode cX7_compare 21 = .ok (.aload_n 0, 1) := by decide +kernel
theorem dX7_compare_22 : decode cX7_compare 22 = .ok (.getfield 18, 3) := by decide +kernel
theorem dX7_compare_25 : decode cX7_compare 25 = .ok (.iconst 2, 1) := by decide +kernel
theorem dX7_compare_26 : decode cX7_compare 26 = .ok (.invokevirtual 101, 3) := by decide +kernel
theorem dX7_compare_29 : decode cX7_compare 29 = .ok (.ifCond .eq 18, 3) := by decide +kernel
theorem dX7_compare_32 : decode cX7_compare 32 = .ok (.aload_n 0, 1) := by decide +kernel
theorem dX7_compare_33 : decode cX7_compare 33 = .ok (.getfield 18, 3) := by decide +kernel
theorem dX7_compare_36 : decode cX7_compare 36 = .ok (.iload_n 1, 1) := by decide +kernel
theorem dX7_compare_37 : decode cX7_compare 37 = .ok (.invokevirtual 211, 3) := by decide +kernel
theorem dX7_compare_40 : decode cX7_compare 40 = .ok (.ifCond .eq 7, 3) := by decide +kernel
theorem dX7_compare_43 : decode cX7_compare 43 = .ok (.iconst 1, 1) := by decide +kernel
theorem dX7_compare_44 : decode cX7_compare 44 = .ok (.goto 4, 3) := by decide +kernel
theorem dX7_compare_47 : decode cX7_compare 47 = .ok (.iconst 0, 1) := by decide +kernel
theorem dX7_compare_48 : decode cX7_compare 48 = .ok (.ireturn, 1) := by decide +kernel
abbrev mX7_move : ks_M := (RX7, cX7_move, 2, (some .boolean), "move")
theorem dX7_move_0 : decode cX7_move 0 = .ok (.aload_n 0, 1) := by decide +kernel
theorem dX7_move_1 : decode cX7_move 1 = .ok (.getfield 18, 3) := by decide +kernel
theorem dX7_move_4 : decode cX7_move 4 = .ok (.getfield 85, 3) := by decide +kernel
theorem dX7_move_7 : decode cX7_move 7 = .ok (.getstatic 215, 3) := by decide +kernel
theorem dX7_move_10 : decode cX7_move 10 = .ok (.iload_n 1, 1) := by decide +kernel
theorem dX7_move_11 : decode cX7_move 11 = .ok (.bipush 107, 2) := by decide +kernel
theorem dX7_move_13 : decode cX7_move 13 = .ok (.isub, 1) := by decide +kernel
theorem dX7_move_14 : decode cX7_move 14 = .ok (.iaload, 1) := by decide +kernel
theorem dX7_move_15 : decode cX7_move 15 = .ok (.if_icmp .ge 5, 3) := by decide +kernel
theorem dX7_move_18 : decode cX7_move 18 = .ok (.iconst 0, 1) := by decide +kernel
theorem dX7_move_19 : decode cX7_move 19 = .ok (.ireturn, 1) := by decide +kernel
theorem dX7_move_20 : decode cX7_move 20 = .ok (.iload_n 1, 1) := by decide +kernel
theorem dX7_move_21 : decode cX7_move 21 = .ok (.tableswitch 395 107 124 #[87, 95, 103, 112, 140, 179, 207, 235, 263, 290, 306, 315, 324, 352, 361, 361, 377, 386], 87) := by decide +kernel
theorem dX7_move_108 : decode cX7_move 108 = .ok (.aload_n 0, 1) := by decide +kernel
theorem dX7_move_109 : decode cX7_move 109 = .ok (.getfield 18, 3) := by decide +kernel
theorem dX7_move_112 : decode cX7_move 112 = .ok (.invokevirtual 218, 3) := by decide +kernel
theorem dX7_move_115 : decode cX7_move 115 = .ok (.ireturn, 1) := by decide +kernel
theorem dX7_move_116 : decode cX7_move 116 = .ok (.aload_n 0, 1) := by decide +kernel
theorem dX7_move_117 : decode cX7_move 117 = .ok (.getfield 18, 3) := by decide +kernel
theorem dX7_move_120 : decode cX7_move 120 = .ok (.invokevirtual 221, 3) := by decide +kernel
theorem dX7_move_123 : decode cX7_move 123 = .ok (.ireturn, 1) := by decide +kernel
theorem dX7_move_124 : decode cX7_move 124 = .ok (.aload_n 0, 1) := by decide +kernel
theorem dX7_move_125 : decode cX7_move 125 = .ok (.getfield 18, 3) := by decide +kernel
theorem dX7_move_128 : decode cX7_move 128 = .ok (.iconst 2, 1) := by decide +kernel
theorem dX7_move_129 : decode cX7_move 129 = .ok (.invokevirtual 101, 3) := by decide +kernel
theorem dX7_move_132 : decode cX7_move 132 = .ok (.ireturn, 1) := by decide +kernel
theorem dX7_move_133 : decode cX7_move 133 = .ok (.aload_n 0, 1) := by decide +kernel
theorem dX7_move_134 : decode cX7_move 134 = .ok (.getfield 18, 3) := by decide +kernel
theorem dX7_move_137 : decode cX7_move 137 = .ok (.iconst 1, 1) := by decide +kernel
theorem dX7_move_138 : decode cX7_move 138 = .ok (.invokevirtual 224, 3) := by decide +kernel
theorem dX7_move_141 : decode cX7_move 141 = .ok (.ifCond .eq 18, 3) := by decide +kernel
theorem dX7_move_144 : decode cX7_move 144 = .ok (.aload_n 0, 1) := by decide +kernel
theorem dX7_move_145 : decode cX7_move 145 = .ok (.getfield 18, 3) := by decide +kernel
theorem dX7_move_148 : decode cX7_move 148 = .ok (.iconst 1, 1) := by decide +kernel
theorem dX7_move_149 : decode cX7_move 149 = .ok (.invokevirtual 224, 3) := by decide +kernel
theorem dX7_move_152 : decode cX7_move 152 = .ok (.ifCond .eq 7, 3) := by decide +kernel
theorem dX7_move_155 : decode cX7_move 155 = .ok (.iconst 1, 1) := by decide +kernel
theorem dX7_move_156 : decode cX7_move 156 = .ok (.goto 4, 3) := by decide +kernel
theorem dX7_move_159 : decode cX7_move 159 = .ok (.iconst 0, 1) := by decide +kernel
theorem dX7_move_160 : decode cX7_move 160 = .ok (.ireturn, 1) := by decide +kernel
theorem dX7_move_161 : decode cX7_move 161 = .ok (.aload_n 0, 1) := by decide +kernel
theorem dX7_move_162 : decode cX7_move 162 = .ok (.getfield 18, 3) := by decide +kernel
theorem dX7_move_165 : decode cX7_move 165 = .ok (.iconst 2, 1) := by decide +kernel
theorem dX7_move_166 : decode cX7_move 166 = .ok (.invokevirtual 224, 3) := by decide +kernel
theorem dX7_move_169 : decode cX7_move 169 = .ok (.ifCond .eq 29, 3) := by decide +kernel
theorem dX7_move_172 : decode cX7_move 172 = .ok (.aload_n 0, 1) := by decide +kernel
theorem dX7_move_173 : decode cX7_move 173 = .ok (.getfield 18, 3) := by decide +kernel
theorem dX7_move_176 : decode cX7_move 176 = .ok (.iconst 2, 1) := by decide +kernel
theorem dX7_move_177 : decode cX7_move 177 = .ok (.invokevirtual 224, 3) := by decide +kernel
theorem dX7_move_180 : decode cX7_move 180 = .ok (.ifCond .eq 18, 3) := by decide +kernel
theorem dX7_move_183 : decode cX7_move 183 = .ok (.aload_n 0, 1) := by decide +kernel
theorem dX7_move_184 : decode cX7_move 184 = .ok (.getfield 18, 3) := by decide +kernel
theorem dX7_move_187 : decode cX7_move 187 = .ok (.iconst 2, 1) := by decide +kernel
theorem dX7_move_188 : decode cX7_move 188 = .ok (.invokevirtual 224, 3) := by decide +kernel
theorem dX7_move_191 : decode cX7_move 191 = .ok (.ifCond .eq 7, 3) := by decide +kernel
theorem dX7_move_194 : decode cX7_move 194 = .ok (.iconst 1, 1) := by decide +kernel
theorem dX7_move_195 : decode cX7_move 195 = .ok (.goto 4, 3) := by decide +kernel
theorem dX7_move_198 : decode cX7_move 198 = .ok (.iconst 0, 1) := by decide +kernel
theorem dX7_move_199 : decode cX7_move 199 = .ok (.ireturn, 1) := by decide +kernel
theorem dX7_move_200 : decode cX7_move 200 = .ok (.aload_n 0, 1) := by decide +kernel
theorem dX7_move_201 : decode cX7_move 201 = .ok (.getfield 18, 3) := by decide +kernel
theorem dX7_move_204 : decode cX7_move 204 = .ok (.iconst 3, 1) := by decide +kernel
theorem dX7_move_205 : decode cX7_move 205 = .ok (.invokevirtual 224, 3) := by decide +kernel
theorem dX7_move_208 : decode cX7_move 208 = .ok (.ifCond .eq 18, 3) := by decide +kernel
theorem dX7_move_211 : decode cX7_move 211 = .ok (.aload_n 0, 1) := by decide +kernel
theorem dX7_move_212 : decode cX7_move 212 = .ok (.getfield 18, 3) := by decide +kernel
theorem dX7_move_215 : decode cX7_move 215 = .ok (.iconst 3, 1) := by decide +kernel
theorem dX7_move_216 : decode cX7_move 216 = .ok (.invokevirtual 224, 3) := by decide +kernel
theorem dX7_move_219 : decode cX7_move 219 = .ok (.ifCond .eq 7, 3) := by decide +kernel
theorem dX7_move_222 : decode cX7_move 222 = .ok (.iconst 1, 1) := by decide +kernel
theorem dX7_move_223 : decode cX7_move 223 = .ok (.goto 4, 3) := by decide +kernel
theorem dX7_move_226 : decode cX7_move 226 = .ok (.iconst 0, 1) := by decide +kernel
theorem dX7_move_227 : decode cX7_move 227 = .ok (.ireturn, 1) := by decide +kernel
theorem dX7_move_228 : decode cX7_move 228 = .ok (.aload_n 0, 1) := by decide +kernel
theorem dX7_move_229 : decode cX7_move 229 = .ok (.getfield 18, 3) := by decide +kernel
theorem dX7_move_232 : decode cX7_move 232 = .ok (.iconst 5, 1) := by decide +kernel
theorem dX7_move_233 : decode cX7_move 233 = .ok (.invokevirtual 227, 3) := by decide +kernel
theorem dX7_move_236 : decode cX7_move 236 = .ok (.ifCond .eq 18, 3) := by decide +kernel
theorem dX7_move_239 : decode cX7_move 239 = .ok (.aload_n 0, 1) := by decide +kernel
theorem dX7_move_240 : decode cX7_move 240 = .ok (.getfield 18, 3) := by decide +kernel
theorem dX7_move_243 : decode cX7_move 243 = .ok (.iconst 5, 1) := by decide +kernel
theorem dX7_move_244 : decode cX7_move 244 = .ok (.invokevirtual 227, 3) := by decide +kernel
theorem dX7_move_247 : decode cX7_move 247 = .ok (.ifCond .eq 7, 3) := by decide +kernel
theorem dX7_move_250 : decode cX7_move 250 = .ok (.iconst 1, 1) := by decide +kernel
theorem dX7_move_251 : decode cX7_move 251 = .ok (.goto 4, 3) := by decide +kernel
theorem dX7_move_254 : decode cX7_move 254 = .ok (.iconst 0, 1) := by decide +kernel
theorem dX7_move_255 : decode cX7_move 255 = .ok (.ireturn, 1) := by decide +kernel
theorem dX7_move_256 : decode cX7_move 256 = .ok (.aload_n 0, 1) := by decide +kernel
theorem dX7_move_257 : decode cX7_move 257 = .ok (.getfield 18, 3) := by decide +kernel
theorem dX7_move_260 : decode cX7_move 260 = .ok (.iconst 3, 1) := by decide +kernel
theorem dX7_move_261 : decode cX7_move 261 = .ok (.invokevirtual 227, 3) := by decide +kernel
theorem dX7_move_264 : decode cX7_move 264 = .ok (.ifCond .eq 18, 3) := by decide +kernel
theorem dX7_move_267 : decode cX7_move 267 = .ok (.aload_n 0, 1) := by decide +kernel
theorem dX7_move_268 : decode cX7_move 268 = .ok (.getfield 18, 3) := by decide +kernel
theorem dX7_move_271 : decode cX7_move 271 = .ok (.iconst 3, 1) := by decide +kernel
theorem dX7_move_272 : decode cX7_move 272 = .ok (.invokevirtual 227, 3) := by decide +kernel
theorem dX7_move_275 : decode cX7_move 275 = .ok (.ifCond .eq 7, 3) := by decide +kernel
theorem dX7_move_278 : decode cX7_move 278 = .ok (.iconst 1, 1) := by decide +kernel
theorem dX7_move_279 : decode cX7_move 279 = .ok (.goto 4, 3) := by decide +kernel
theorem dX7_move_282 : decode cX7_move 282 = .ok (.iconst 0, 1) := by decide +kernel
theorem dX7_move_283 : decode cX7_move 283 = .ok (.ireturn, 1) := by decide +kernel
theorem dX7_move_284 : decode cX7_move 284 = .ok (.aload_n 0, 1) := by decide +kernel
theorem dX7_move_285 : decode cX7_move 285 = .ok (.getfield 18, 3) := by decide +kernel
theorem dX7_move_288 : decode cX7_move 288 = .ok (.invokevirtual 97, 3) := by decide +kernel
theorem dX7_move_291 : decode cX7_move 291 = .ok (.ifCond .eq 14, 3) := by decide +kernel
theorem dX7_move_294 : decode cX7_move 294 = .ok (.aload_n 0, 1) := by decide +kernel
theorem dX7_move_295 : decode cX7_move 295 = .ok (.getfield 18, 3) := by decide +kernel
theorem dX7_move_298 : decode cX7_move 298 = .ok (.iconst 0, 1) := by decide +kernel
theorem dX7_move_299 : decode cX7_move 299 = .ok (.invokevirtual 224, 3) := by decide +kernel
theorem dX7_move_302 : decode cX7_move 302 = .ok (.ifCond .eq 7, 3) := by decide +kernel
theorem dX7_move_305 : decode cX7_move 305 = .ok (.iconst 1, 1) := by decide +kernel
theorem dX7_move_306 : decode cX7_move 306 = .ok (.goto 4, 3) := by decide +kernel
theorem dX7_move_309 : decode cX7_move 309 = .ok (.iconst 0, 1) := by decide +kernel
theorem dX7_move_310 : decode cX7_move 310 = .ok (.ireturn, 1) := by decide +kernel
theorem dX7_move_311 : decode cX7_move 311 = .ok (.aload_n 0, 1) := by decide +kernel
theorem dX7_move_312 : decode cX7_move 312 = .ok (.getfield 18, 3) := by decide +kernel
theorem dX7_move_315 : decode cX7_move 315 = .ok (.aload_n 0, 1) := by decide +kernel
theorem dX7_move_316 : decode cX7_move 316 = .ok (.getfield 18, 3) := by decide +kernel
theorem dX7_move_319 : decode cX7_move 319 = .ok (.getfield 85, 3) := by decide +kernel
theorem dX7_move_322 : decode cX7_move 322 = .ok (.i2l, 1) := by decide +kernel
theorem dX7_move_323 : decode cX7_move 323 = .ok (.invokevirtual 182, 3) := by decide +kernel
theorem dX7_move_326 : decode cX7_move 326 = .ok (.ireturn, 1) := by decide +kernel
theorem dX7_move_327 : decode cX7_move 327 = .ok (.aload_n 0, 1) := by decide +kernel
theorem dX7_move_328 : decode cX7_move 328 = .ok (.getfield 18, 3) := by decide +kernel
theorem dX7_move_331 : decode cX7_move 331 = .ok (.iconst 1, 1) := by decide +kernel
theorem dX7_move_332 : decode cX7_move 332 = .ok (.invokevirtual 101, 3) := by decide +kernel
theorem dX7_move_335 : decode cX7_move 335 = .ok (.ireturn, 1) := by decide +kernel
theorem dX7_move_336 : decode cX7_move 336 = .ok (.aload_n 0, 1) := by decide +kernel
theorem dX7_move_337 : decode cX7_move 337 = .ok (.getfield 18, 3) := by decide +kernel
theorem dX7_move_340 : decode cX7_move 340 = .ok (.iconst 0, 1) := by decide +kernel
theorem dX7_move_341 : decode cX7_move 341 = .ok (.invokevirtual 224, 3) := by decide +kernel
theorem dX7_move_344 : decode cX7_move 344 = .ok (.ireturn, 1) := by decide +kernel
theorem dX7_move_345 : decode cX7_move 345 = .ok (.aload_n 0, 1) := by decide +kernel
theorem dX7_move_346 : decode cX7_move 346 = .ok (.getfield 18, 3) := by decide +kernel
theorem dX7_move_349 : decode cX7_move 349 = .ok (.iconst 1, 1) := by decide +kernel
theorem dX7_move_350 : decode cX7_move 350 = .ok (.invokevirtual 227, 3) := by decide +kernel
theorem dX7_move_353 : decode cX7_move 353 = .ok (.ifCond .eq 18, 3) := by decide +kernel
theorem dX7_move_356 : decode cX7_move 356 = .ok (.aload_n 0, 1) := by decide +kernel
theorem dX7_move_357 : decode cX7_move 357 = .ok (.getfield 18, 3) := by decide +kernel
theorem dX7_move_360 : decode cX7_move 360 = .ok (.iconst 1, 1) := by decide +kernel
theorem dX7_move_361 : decode cX7_move 361 = .ok (.invokevirtual 101, 3) := by decide +kernel
theorem dX7_move_364 : decode cX7_move 364 = .ok (.ifCond .eq 7, 3) := by decide +kernel
theorem dX7_move_367 : decode cX7_move 367 = .ok (.iconst 1, 1) := by decide +kernel
theorem dX7_move_368 : decode cX7_move 368 = .ok (.goto 4, 3) := by decide +kernel
theorem dX7_move_371 : decode cX7_move 371 = .ok (.iconst 0, 1) := by decide +kernel
theorem dX7_move_372 : decode cX7_move 372 = .ok (.ireturn, 1) := by decide +kernel
theorem dX7_move_373 : decode cX7_move 373 = .ok (.aload_n 0, 1) := by decide +kernel
theorem dX7_move_374 : decode cX7_move 374 = .ok (.getfield 18, 3) := by decide +kernel
theorem dX7_move_377 : decode cX7_move 377 = .ok (.iconst 1, 1) := by decide +kernel
theorem dX7_move_378 : decode cX7_move 378 = .ok (.invokevirtual 224, 3) := by decide +kernel
theorem dX7_move_381 : decode cX7_move 381 = .ok (.ireturn, 1) := by decide +kernel
theorem dX7_move_382 : decode cX7_move 382 = .ok (.aload_n 0, 1) := by decide +kernel
theorem dX7_move_383 : decode cX7_move 383 = .ok (.iload_n 1, 1) := by decide +kernel
theorem dX7_move_384 : decode cX7_move 384 = .ok (.bipush 121, 2) := by decide +kernel
theorem dX7_move_386 : decode cX7_move 386 = .ok (.if_icmp .ne 7, 3) := by decide +kernel
theorem dX7_move_389 : decode cX7_move 389 = .ok (.iconst 1, 1) := by decide +kernel
theorem dX7_move_390 : decode cX7_move 390 = .ok (.goto 4, 3) := by decide +kernel
theorem dX7_move_393 : decode cX7_move 393 = .ok (.iconst 0, 1) := by decide +kernel
theorem dX7_move_394 : decode cX7_move 394 = .ok (.invokevirtual 230, 3) := by decide +kernel
theorem dX7_move_397 : decode cX7_move 397 = .ok (.ireturn, 1) := by decide +kernel
theorem dX7_move_398 : decode cX7_move 398 = .ok (.aload_n 0, 1) := by decide +kernel
theorem dX7_move_399 : decode cX7_move 399 = .ok (.getfield 18, 3) := by decide +kernel
theorem dX7_move_402 : decode cX7_move 402 = .ok (.iconst 2, 1) := by decide +kernel
theorem dX7_move_403 : decode cX7_move 403 = .ok (.invokevirtual 227, 3) := by decide +kernel
theorem dX7_move_406 : decode cX7_move 406 = .ok (.ireturn, 1) := by decide +kernel
theorem dX7_move_407 : decode cX7_move 407 = .ok (.aload_n 0, 1) := by decide +kernel
theorem dX7_move_408 : decode cX7_move 408 = .ok (.getfield 18, 3) := by decide +kernel
theorem dX7_move_411 : decode cX7_move 411 = .ok (.iconst 1, 1) := by decide +kernel
theorem dX7_move_412 : decode cX7_move 412 = .ok (.invokevirtual 227, 3) := by decide +kernel
theorem dX7_move_415 : decode cX7_move 415 = .ok (.ireturn, 1) := by decide +kernel
theorem dX7_move_416 : decode cX7_move 416 = .ok (.aload_n 0, 1) := by decide +kernel
theorem dX7_move_417 : decode cX7_move 417 = .ok (.getfield 18, 3) := by decide +kernel
theorem dX7_move_420 : decode cX7_move 420 = .ok (.iconst 1, 1) := by decide +kernel
theorem dX7_move_421 : decode cX7_move 421 = .ok (.invokevirtual 227, 3) := by decide +kernel
theorem dX7_move_424 : decode cX7_move 424 = .ok (.ifCond .eq 18, 3) := by decide +kernel
theorem dX7_move_427 : decode cX7_move 427 = .ok (.aload_n 0, 1) := by decide +kernel
theorem dX7_move_428 : decode cX7_move 428 = .ok (.getfield 18, 3) := by decide +kernel
theorem dX7_move_431 : decode cX7_move 431 = .ok (.iconst 1, 1) := by decide +kernel
theorem dX7_move_432 : decode cX7_move 432 = .ok (.invokevirtual 224, 3) := by decide +kernel
theorem dX7_move_435 : decode cX7_move 435 = .ok (.ifCond .eq 7, 3) := by decide +kernel
theorem dX7_move_438 : decode cX7_move 438 = .ok (.iconst 1, 1) := by decide +kernel
theorem dX7_move_439 : decode cX7_move 439 = .ok (.goto 4, 3) := by decide +kernel
theorem dX7_move_442 : decode cX7_move 442 = .ok (.iconst 0, 1) := by decide +kernel
theorem dX7_move_443 : decode cX7_move 443 = .ok (.ireturn, 1) := by decide +kernel
abbrev mX7_moveByNumber : ks_M := (RX7, cX7_moveByNumber, 3, (some .boolean), "moveByNumber")
theorem dX7_moveByNumber_0 : decode cX7_moveByNumber 0 = .ok (.aload_n 0, 1) := by decide +kernel
theorem dX7_moveByNumber_1 : decode cX7_moveByNumber 1 = .ok (.getfield 18, 3) := by decide +kernel
theorem dX7_moveByNumber_4 : decode cX7_moveByNumber 4 = .ok (.iconst 0, 1) := by decide +kernel
theorem dX7_moveByNumber_5 : decode cX7_moveByNumber 5 = .ok (.iconst 4, 1) := by decide +kernel
theorem dX7_moveByNumber_6 : decode cX7_moveByNumber 6 = .ok (.invokevirtual 198, 3) := by decide +kernel
theorem dX7_moveByNumber_9 : decode cX7_moveByNumber 9 = .ok (.ifCond .ne 5, 3) := by decide +kernel
theorem dX7_moveByNumber_12 : decode cX7_moveByNumber 12 = .ok (.iconst 0, 1) := by decide +kernel
theorem dX7_moveByNumber_13 : decode cX7_moveByNumber 13 = .ok (.ireturn, 1) := by decide +kernel
theorem dX7_moveByNumber_14 : decode cX7_moveByNumber 14 = .ok (.aload_n 0, 1) := by decide +kernel
theorem dX7_moveByNumber_15 : decode cX7_moveByNumber 15 = .ok (.getfield 18, 3) := by decide +kernel
theorem dX7_moveByNumber_18 : decode cX7_moveByNumber 18 = .ok (.iconst 0, 1) := by decide +kernel
theorem dX7_moveByNumber_19 : decode cX7_moveByNumber 19 = .ok (.invokevirtual 201, 3) := by decide +kernel
theorem dX7_moveByNumber_22 : decode cX7_moveByNumber 22 = .ok (.l2i, 1) := by decide +kernel
theorem dX7_moveByNumber_23 : decode cX7_moveByNumber 23 = .ok (.istore_n 2, 1) := by decide +kernel
theorem dX7_moveByNumber_24 : decode cX7_moveByNumber 24 = .ok (.aload_n 0, 1) := by decide +kernel
theorem dX7_moveByNumber_25 : decode cX7_moveByNumber 25 = .ok (.getfield 18, 3) := by decide +kernel
theorem dX7_moveByNumber_28 : decode cX7_moveByNumber 28 = .ok (.iconst 1, 1) := by decide +kernel
theorem dX7_moveByNumber_29 : decode cX7_moveByNumber 29 = .ok (.invokevirtual 101, 3) := by decide +kernel
theorem dX7_moveByNumber_32 : decode cX7_moveByNumber 32 = .ok (.pop, 1) := by decide +kernel
theorem dX7_moveByNumber_33 : decode cX7_moveByNumber 33 = .ok (.iload_n 1, 1) := by decide +kernel
theorem dX7_moveByNumber_34 : decode cX7_moveByNumber 34 = .ok (.ifCond .eq 14, 3) := by decide +kernel
theorem dX7_moveByNumber_37 : decode cX7_moveByNumber 37 = .ok (.aload_n 0, 1) := by decide +kernel
theorem dX7_moveByNumber_38 : decode cX7_moveByNumber 38 = .ok (.getfield 18, 3) := by decide +kernel
theorem dX7_moveByNumber_41 : decode cX7_moveByNumber 41 = .ok (.iload_n 2, 1) := by decide +kernel
theorem dX7_moveByNumber_42 : decode cX7_moveByNumber 42 = .ok (.invokevirtual 224, 3) := by decide +kernel
theorem dX7_moveByNumber_45 : decode cX7_moveByNumber 45 = .ok (.goto 11, 3) := by decide +kernel
theorem dX7_moveByNumber_48 : decode cX7_moveByNumber 48 = .ok (.aload_n 0, 1) := by decide +kernel
theorem dX7_moveByNumber_49 : decode cX7_moveByNumber 49 = .ok (.getfield 18, 3) := by decide +kernel
theorem dX7_moveByNumber_52 : decode cX7_moveByNumber 52 = .ok (.iload_n 2, 1) := by decide +kernel
theorem dX7_moveByNumber_53 : decode cX7_moveByNumber 53 = .ok (.invokevirtual 227, 3) := by decide +kernel
theorem dX7_moveByNumber_56 : decode cX7_moveByNumber 56 = .ok (.ireturn, 1) := by decide +kernel
abbrev mX7_reckon : ks_M := (RX7, cX7_reckon, 10, (some .boolean), "reckon")
theorem dX7_reckon_0 : decode cX7_reckon 0 = .ok (.iload_n 1, 1) := by decide +kernel
theorem dX7_reckon_1 : decode cX7_reckon 1 = .ok (.sipush 147, 3) := by decide +kernel
theorem dX7_reckon_4 : decode cX7_reckon 4 = .ok (.if_icmp .ge 7, 3) := by decide +kernel
theorem dX7_reckon_7 : decode cX7_reckon 7 = .ok (.iconst 1, 1) := by decide +kernel
theorem dX7_reckon_8 : decode cX7_reckon 8 = .ok (.goto 15, 3) := by decide +kernel
theorem dX7_reckon_11 : decode cX7_reckon 11 = .ok (.iload_n 1, 1) := by decide +kernel
theorem dX7_reckon_12 : decode cX7_reckon 12 = .ok (.sipush 165, 3) := by decide +kernel
theorem dX7_reckon_15 : decode cX7_reckon 15 = .ok (.if_icmp .ne 7, 3) := by decide +kernel
theorem dX7_reckon_18 : decode cX7_reckon 18 = .ok (.iconst 3, 1) := by decide +kernel
theorem dX7_reckon_19 : decode cX7_reckon 19 = .ok (.goto 4, 3) := by decide +kernel
theorem dX7_reckon_22 : decode cX7_reckon 22 = .ok (.iconst 2, 1) := by decide +kernel
theorem dX7_reckon_23 : decode cX7_reckon 23 = .ok (.istore_n 2, 1) := by decide +kernel
theorem dX7_reckon_24 : decode cX7_reckon 24 = .ok (.iconst 0, 1) := by decide +kernel
theorem dX7_reckon_25 : decode cX7_reckon 25 = .ok (.istore_n 3, 1) := by decide +kernel
theorem dX7_reckon_26 : decode cX7_reckon 26 = .ok (.iload_n 3, 1) := by decide +kernel
theorem dX7_reckon_27 : decode cX7_reckon 27 = .ok (.iload_n 2, 1) := by decide +kernel
theorem dX7_reckon_28 : decode cX7_reckon 28 = .ok (.if_icmp .ge 23, 3) := by decide +kernel
theorem dX7_reckon_31 : decode cX7_reckon 31 = .ok (.aload_n 0, 1) := by decide +kernel
theorem dX7_reckon_32 : decode cX7_reckon 32 = .ok (.getfield 18, 3) := by decide +kernel
theorem dX7_reckon_35 : decode cX7_reckon 35 = .ok (.iload_n 3, 1) := by decide +kernel
theorem dX7_reckon_36 : decode cX7_reckon 36 = .ok (.iconst 4, 1) := by decide +kernel
theorem dX7_reckon_37 : decode cX7_reckon 37 = .ok (.invokevirtual 198, 3) := by decide +kernel
theorem dX7_reckon_40 : decode cX7_reckon 40 = .ok (.ifCond .ne 5, 3) := by decide +kernel
theorem dX7_reckon_43 : decode cX7_reckon 43 = .ok (.iconst 0, 1) := by decide +kernel
theorem dX7_reckon_44 : decode cX7_reckon 44 = .ok (.ireturn, 1) := by decide +kernel
theorem dX7_reckon_45 : decode cX7_reckon 45 = .ok (.iinc 3 1, 3) := by decide +kernel
theorem dX7_reckon_48 : decode cX7_reckon 48 = .ok (.goto (-22), 3) := by decide +kernel
theorem dX7_reckon_51 : decode cX7_reckon 51 = .ok (.aload_n 0, 1) := by decide +kernel
theorem dX7_reckon_52 : decode cX7_reckon 52 = .ok (.getfield 18, 3) := by decide +kernel
theorem dX7_reckon_55 : decode cX7_reckon 55 = .ok (.iconst 0, 1) := by decide +kernel
theorem dX7_reckon_56 : decode cX7_reckon 56 = .ok (.invokevirtual 201, 3) := by decide +kernel
theorem dX7_reckon_59 : decode cX7_reckon 59 = .ok (.lstore_n 3, 1) := by decide +kernel
theorem dX7_reckon_60 : decode cX7_reckon 60 = .ok (.iload_n 2, 1) := by decide +kernel
theorem dX7_reckon_61 : decode cX7_reckon 61 = .ok (.iconst 1, 1) := by decide +kernel
theorem dX7_reckon_62 : decode cX7_reckon 62 = .ok (.if_icmp .le 14, 3) := by decide +kernel
theorem dX7_reckon_65 : decode cX7_reckon 65 = .ok (.aload_n 0, 1) := by decide +kernel
theorem dX7_reckon_66 : decode cX7_reckon 66 = .ok (.getfield 18, 3) := by decide +kernel
theorem dX7_reckon_69 : decode cX7_reckon 69 = .ok (.iconst 1, 1) := by decide +kernel
theorem dX7_reckon_70 : decode cX7_reckon 70 = .ok (.invokevirtual 201, 3) := by decide +kernel
theorem dX7_reckon_73 : decode cX7_reckon 73 = .ok (.goto 4, 3) := by decide +kernel
theorem dX7_reckon_76 : decode cX7_reckon 76 = .ok (.lconst 0, 1) := by decide +kernel
theorem dX7_reckon_77 : decode cX7_reckon 77 = .ok (.lstore 5, 2) := by decide +kernel
theorem dX7_reckon_79 : decode cX7_reckon 79 = .ok (.iload_n 2, 1) := by decide +kernel
theorem dX7_reckon_80 : decode cX7_reckon 80 = .ok (.iconst 2, 1) := by decide +kernel
theorem dX7_reckon_81 : decode cX7_reckon 81 = .ok (.if_icmp .le 14, 3) := by decide +kernel
theorem dX7_reckon_84 : decode cX7_reckon 84 = .ok (.aload_n 0, 1) := by decide +kernel
theorem dX7_reckon_85 : decode cX7_reckon 85 = .ok (.getfield 18, 3) := by decide +kernel
theorem dX7_reckon_88 : decode cX7_reckon 88 = .ok (.iconst 2, 1) := by decide +kernel
theorem dX7_reckon_89 : decode cX7_reckon 89 = .ok (.invokevirtual 201, 3) := by decide +kernel
theorem dX7_reckon_92 : decode cX7_reckon 92 = .ok (.goto 4, 3) := by decide +kernel
theorem dX7_reckon_95 : decode cX7_reckon 95 = .ok (.lconst 0, 1) := by decide +kernel
theorem dX7_reckon_96 : decode cX7_reckon 96 = .ok (.lstore 7, 2) := by decide +kernel
theorem dX7_reckon_98 : decode cX7_reckon 98 = .ok (.aload_n 0, 1) := by decide +kernel
theorem dX7_reckon_99 : decode cX7_reckon 99 = .ok (.getfield 18, 3) := by decide +kernel
theorem dX7_reckon_102 : decode cX7_reckon 102 = .ok (.iload_n 2, 1) := by decide +kernel
theorem dX7_reckon_103 : decode cX7_reckon 103 = .ok (.invokevirtual 101, 3) := by decide +kernel
theorem dX7_reckon_106 : decode cX7_reckon 106 = .ok (.pop, 1) := by decide +kernel
theorem dX7_reckon_107 : decode cX7_reckon 107 = .ok (.iload_n 2, 1) := by decide +kernel
theorem dX7_reckon_108 : decode cX7_reckon 108 = .ok (.iconst 1, 1) := by decide +kernel
theorem dX7_reckon_109 : decode cX7_reckon 109 = .ok (.if_icmp .ne 16, 3) := by decide +kernel
theorem dX7_reckon_112 : decode cX7_reckon 112 = .ok (.aload_n 0, 1) := by decide +kernel
theorem dX7_reckon_113 : decode cX7_reckon 113 = .ok (.getfield 18, 3) := by decide +kernel
theorem dX7_reckon_116 : decode cX7_reckon 116 = .ok (.iload_n 1, 1) := by decide +kernel
theorem dX7_reckon_117 : decode cX7_reckon 117 = .ok (.lload_n 3, 1) := by decide +kernel
theorem dX7_reckon_118 : decode cX7_reckon 118 = .ok (.invokestatic 233, 3) := by decide +kernel
theorem dX7_reckon_121 : decode cX7_reckon 121 = .ok (.invokevirtual 182, 3) := by decide +kernel
theorem dX7_reckon_124 : decode cX7_reckon 124 = .ok (.ireturn, 1) := by decide +kernel
theorem dX7_reckon_125 : decode cX7_reckon 125 = .ok (.iload_n 2, 1) := by decide +kernel
theorem dX7_reckon_126 : decode cX7_reckon 126 = .ok (.iconst 3, 1) := by decide +kernel
theorem dX7_reckon_127 : decode cX7_reckon 127 = .ok (.if_icmp .ne 31, 3) := by decide +kernel
theorem dX7_reckon_130 : decode cX7_reckon 130 = .ok (.aload_n 0, 1) := by decide +kernel
theorem dX7_reckon_131 : decode cX7_reckon 131 = .ok (.getfield 18, 3) := by decide +kernel
theorem dX7_reckon_134 : decode cX7_reckon 134 = .ok (.lload 5, 2) := by decide +kernel
theorem dX7_reckon_136 : decode cX7_reckon 136 = .ok (.lload 7, 2) := by decide +kernel
theorem dX7_reckon_138 : decode cX7_reckon 138 = .ok (.lcmp, 1) := by decide +kernel
theorem dX7_reckon_139 : decode cX7_reckon 139 = .ok (.ifCond .gt 14, 3) := by decide +kernel
theorem dX7_reckon_142 : decode cX7_reckon 142 = .ok (.lload 7, 2) := by decide +kernel
theorem dX7_reckon_144 : decode cX7_reckon 144 = .ok (.lload_n 3, 1) := by decide +kernel
theorem dX7_reckon_145 : decode cX7_reckon 145 = .ok (.lcmp, 1) := by decide +kernel
theorem dX7_reckon_146 : decode cX7_reckon 146 = .ok (.ifCond .ge 7, 3) := by decide +kernel
theorem dX7_reckon_149 : decode cX7_reckon 149 = .ok (.iconst 1, 1) := by decide +kernel
theorem dX7_reckon_150 : decode cX7_reckon 150 = .ok (.goto 4, 3) := by decide +kernel
theorem dX7_reckon_153 : decode cX7_reckon 153 = .ok (.iconst 0, 1) := by decide +kernel
theorem dX7_reckon_154 : decode cX7_reckon 154 = .ok (.invokevirtual 211, 3) := by decide +kernel
theorem dX7_reckon_157 : decode cX7_reckon 157 = .ok (.ireturn, 1) := by decide +kernel
theorem dX7_reckon_158 : decode cX7_reckon 158 = .ok (.iload_n 1, 1) := by decide +kernel
theorem dX7_reckon_159 : decode cX7_reckon 159 = .ok (.sipush 147, 3) := by decide +kernel
theorem dX7_reckon_162 : decode cX7_reckon 162 = .ok (.if_icmp .eq 24, 3) := by decide +kernel
theorem dX7_reckon_165 : decode cX7_reckon 165 = .ok (.iload_n 1, 1) := by decide +kernel
theorem dX7_reckon_166 : decode cX7_reckon 166 = .ok (.sipush 148, 3) := by decide +kernel
theorem dX7_reckon_169 : decode cX7_reckon 169 = .ok (.if_icmp .eq 17, 3) := by decide +kernel
theorem dX7_reckon_172 : decode cX7_reckon 172 = .ok (.iload_n 1, 1) := by decide +kernel
theorem dX7_reckon_173 : decode cX7_reckon 173 = .ok (.sipush 163, 3) := by decide +kernel
theorem dX7_reckon_176 : decode cX7_reckon 176 = .ok (.if_icmp .eq 10, 3) := by decide +kernel
theorem dX7_reckon_179 : decode cX7_reckon 179 = .ok (.iload_n 1, 1) := by decide +kernel
theorem dX7_reckon_180 : decode cX7_reckon 180 = .ok (.sipush 164, 3) := by decide +kernel
theorem dX7_reckon_183 : decode cX7_reckon 183 = .ok (.if_icmp .ne 18, 3) := by decide +kernel
theorem dX7_reckon_186 : decode cX7_reckon 186 = .ok (.aload_n 0, 1) := by decide +kernel
theorem dX7_reckon_187 : decode cX7_reckon 187 = .ok (.getfield 18, 3) := by decide +kernel
theorem dX7_reckon_190 : decode cX7_reckon 190 = .ok (.iload_n 1, 1) := by decide +kernel
theorem dX7_reckon_191 : decode cX7_reckon 191 = .ok (.lload 5, 2) := by decide +kernel
theorem dX7_reckon_193 : decode cX7_reckon 193 = .ok (.lload_n 3, 1) := by decide +kernel
theorem dX7_reckon_194 : decode cX7_reckon 194 = .ok (.invokestatic 237, 3) := by decide +kernel
theorem dX7_reckon_197 : decode cX7_reckon 197 = .ok (.invokevirtual 182, 3) := by decide +kernel
theorem dX7_reckon_200 : decode cX7_reckon 200 = .ok (.ireturn, 1) := by decide +kernel
theorem dX7_reckon_201 : decode cX7_reckon 201 = .ok (.iload_n 1, 1) := by decide +kernel
theorem dX7_reckon_202 : decode cX7_reckon 202 = .ok (.lload 5, 2) := by decide +kernel
theorem dX7_reckon_204 : decode cX7_reckon 204 = .ok (.lload_n 3, 1) := by decide +kernel
theorem dX7_reckon_205 : decode cX7_reckon 205 = .ok (.invokestatic 241, 3) := by decide +kernel
theorem dX7_reckon_208 : decode cX7_reckon 208 = .ok (.istore 9, 2) := by decide +kernel
theorem dX7_reckon_210 : decode cX7_reckon 210 = .ok (.iload_n 1, 1) := by decide +kernel
theorem dX7_reckon_211 : decode cX7_reckon 211 = .ok (.sipush 157, 3) := by decide +kernel
theorem dX7_reckon_214 : decode cX7_reckon 214 = .ok (.if_icmp .ne 8, 3) := by decide +kernel
theorem dX7_reckon_217 : decode cX7_reckon 217 = .ok (.iload 9, 2) := by decide +kernel
theorem dX7_reckon_219 : decode cX7_reckon 219 = .ok (.goto 12, 3) := by decide +kernel
theorem dX7_reckon_222 : decode cX7_reckon 222 = .ok (.aload_n 0, 1) := by decide +kernel
theorem dX7_reckon_223 : decode cX7_reckon 223 = .ok (.getfield 18, 3) := by decide +kernel
theorem dX7_reckon_226 : decode cX7_reckon 226 = .ok (.iload 9, 2) := by decide +kernel
theorem dX7_reckon_228 : decode cX7_reckon 228 = .ok (.invokevirtual 211, 3) := by decide +kernel
theorem dX7_reckon_231 : decode cX7_reckon 231 = .ok (.ireturn, 1) := by decide +kernel
abbrev mX7_ofOne : ks_M := (RX7, cX7_ofOne, 3, (some .long), "ofOne")
theorem dX7_ofOne_0 : decode cX7_ofOne 0 = .ok (.iload_n 0, 1) := by decide +kernel
theorem dX7_ofOne_1 : decode cX7_ofOne 1 = .ok (.tableswitch 79 139 145 #[43, 47, 79, 79, 51, 54, 67], 43) := by decide +kernel
theorem dX7_ofOne_44 : decode cX7_ofOne 44 = .ok (.lload_n 1, 1) := by decide +kernel
theorem dX7_ofOne_45 : decode cX7_ofOne 45 = .ok (.lconst 1, 1) := by decide +kernel
theorem dX7_ofOne_46 : decode cX7_ofOne 46 = .ok (.ladd, 1) := by decide +kernel
theorem dX7_ofOne_47 : decode cX7_ofOne 47 = .ok (.lreturn, 1) := by decide +kernel
theorem dX7_ofOne_48 : decode cX7_ofOne 48 = .ok (.lload_n 1, 1) := by decide +kernel
theorem dX7_ofOne_49 : decode cX7_ofOne 49 = .ok (.lconst 1, 1) := by decide +kernel
theorem dX7_ofOne_50 : decode cX7_ofOne 50 = .ok (.lsub, 1) := by decide +kernel
theorem dX7_ofOne_51 : decode cX7_ofOne 51 = .ok (.lreturn, 1) := by decide +kernel
theorem dX7_ofOne_52 : decode cX7_ofOne 52 = .ok (.lload_n 1, 1) := by decide +kernel
theorem dX7_ofOne_53 : decode cX7_ofOne 53 = .ok (.lneg, 1) := by decide +kernel
theorem dX7_ofOne_54 : decode cX7_ofOne 54 = .ok (.lreturn, 1) := by decide +kernel
theorem dX7_ofOne_55 : decode cX7_ofOne 55 = .ok (.lload_n 1, 1) := by decide +kernel
theorem dX7_ofOne_56 : decode cX7_ofOne 56 = .ok (.lconst 0, 1) := by decide +kernel
theorem dX7_ofOne_57 : decode cX7_ofOne 57 = .ok (.lcmp, 1) := by decide +kernel
theorem dX7_ofOne_58 : decode cX7_ofOne 58 = .ok (.ifCond .ge 8, 3) := by decide +kernel
theorem dX7_ofOne_61 : decode cX7_ofOne 61 = .ok (.lload_n 1, 1) := by decide +kernel
theorem dX7_ofOne_62 : decode cX7_ofOne 62 = .ok (.lneg, 1) := by decide +kernel
theorem dX7_ofOne_63 : decode cX7_ofOne 63 = .ok (.goto 4, 3) := by decide +kernel
theorem dX7_ofOne_66 : decode cX7_ofOne 66 = .ok (.lload_n 1, 1) := by decide +kernel
theorem dX7_ofOne_67 : decode cX7_ofOne 67 = .ok (.lreturn, 1) := by decide +kernel
theorem dX7_ofOne_68 : decode cX7_ofOne 68 = .ok (.lload_n 1, 1) := by decide +kernel
theorem dX7_ofOne_69 : decode cX7_ofOne 69 = .ok (.lconst 0, 1) := by decide +kernel
theorem dX7_ofOne_70 : decode cX7_ofOne 70 = .ok (.lcmp, 1) := by decide +kernel
theorem dX7_ofOne_71 : decode cX7_ofOne 71 = .ok (.ifCond .ne 7, 3) := by decide +kernel
theorem dX7_ofOne_74 : decode cX7_ofOne 74 = .ok (.lconst 1, 1) := by decide +kernel
theorem dX7_ofOne_75 : decode cX7_ofOne 75 = .ok (.goto 4, 3) := by decide +kernel
theorem dX7_ofOne_78 : decode cX7_ofOne 78 = .ok (.lconst 0, 1) := by decide +kernel
theorem dX7_ofOne_79 : decode cX7_ofOne 79 = .ok (.lreturn, 1) := by decide +kernel
theorem dX7_ofOne_80 : decode cX7_ofOne 80 = .ok (.lload_n 1, 1) := by decide +kernel
theorem dX7_ofOne_81 : decode cX7_ofOne 81 = .ok (.lconst 0, 1) := by decide +kernel
theorem dX7_ofOne_82 : decode cX7_ofOne 82 = .ok (.lcmp, 1) := by decide +kernel
theorem dX7_ofOne_83 : decode cX7_ofOne 83 = .ok (.ifCond .eq 7, 3) := by decide +kernel
theorem dX7_ofOne_86 : decode cX7_ofOne 86 = .ok (.lconst 1, 1) := by decide +kernel
theorem dX7_ofOne_87 : decode cX7_ofOne 87 = .ok (.goto 4, 3) := by decide +kernel
theorem dX7_ofOne_90 : decode cX7_ofOne 90 = .ok (.lconst 0, 1) := by decide +kernel
theorem dX7_ofOne_91 : decode cX7_ofOne 91 = .ok (.lreturn, 1) := by decide +kernel
abbrev mX7_ofTwo : ks_M := (RX7, cX7_ofTwo, 5, (some .long), "ofTwo")
theorem dX7_ofTwo_0 : decode cX7_ofTwo 0 = .ok (.iload_n 0, 1) := by decide +kernel
theorem dX7_ofTwo_1 : decode cX7_ofTwo 1 = .ok (.lookupswitch 55 #[(147, 35), (148, 39), (163, 43)], 35) := by decide +kernel
theorem dX7_ofTwo_36 : decode cX7_ofTwo 36 = .ok (.lload_n 1, 1) := by decide +kernel
theorem dX7_ofTwo_37 : decode cX7_ofTwo 37 = .ok (.lload_n 3, 1) := by decide +kernel
theorem dX7_ofTwo_38 : decode cX7_ofTwo 38 = .ok (.ladd, 1) := by decide +kernel
theorem dX7_ofTwo_39 : decode cX7_ofTwo 39 = .ok (.lreturn, 1) := by decide +kernel
theorem dX7_ofTwo_40 : decode cX7_ofTwo 40 = .ok (.lload_n 1, 1) := by decide +kernel
theorem dX7_ofTwo_41 : decode cX7_ofTwo 41 = .ok (.lload_n 3, 1) := by decide +kernel
theorem dX7_ofTwo_42 : decode cX7_ofTwo 42 = .ok (.lsub, 1) := by decide +kernel
theorem dX7_ofTwo_43 : decode cX7_ofTwo 43 = .ok (.lreturn, 1) := by decide +kernel
theorem dX7_ofTwo_44 : decode cX7_ofTwo 44 = .ok (.lload_n 1, 1) := by decide +kernel
theorem dX7_ofTwo_45 : decode cX7_ofTwo 45 = .ok (.lload_n 3, 1) := by decide +kernel
theorem dX7_ofTwo_46 : decode cX7_ofTwo 46 = .ok (.lcmp, 1) := by decide +kernel
theorem dX7_ofTwo_47 : decode cX7_ofTwo 47 = .ok (.ifCond .ge 7, 3) := by decide +kernel
theorem dX7_ofTwo_50 : decode cX7_ofTwo 50 = .ok (.lload_n 1, 1) := by decide +kernel
theorem dX7_ofTwo_51 : decode cX7_ofTwo 51 = .ok (.goto 4, 3) := by decide +kernel
theorem dX7_ofTwo_54 : decode cX7_ofTwo 54 = .ok (.lload_n 3, 1) := by decide +kernel
theorem dX7_ofTwo_55 : decode cX7_ofTwo 55 = .ok (.lreturn, 1) := by decide +kernel
theorem dX7_ofTwo_56 : decode cX7_ofTwo 56 = .ok (.lload_n 1, 1) := by decide +kernel
theorem dX7_ofTwo_57 : decode cX7_ofTwo 57 = .ok (.lload_n 3, 1) := by decide +kernel
theorem dX7_ofTwo_58 : decode cX7_ofTwo 58 = .ok (.lcmp, 1) := by decide +kernel
theorem dX7_ofTwo_59 : decode cX7_ofTwo 59 = .ok (.ifCond .le 7, 3) := by decide +kernel
theorem dX7_ofTwo_62 : decode cX7_ofTwo 62 = .ok (.lload_n 1, 1) := by decide +kernel
theorem dX7_ofTwo_63 : decode cX7_ofTwo 63 = .ok (.goto 4, 3) := by decide +kernel
theorem dX7_ofTwo_66 : decode cX7_ofTwo 66 = .ok (.lload_n 3, 1) := by decide +kernel
theorem dX7_ofTwo_67 : decode cX7_ofTwo 67 = .ok (.lreturn, 1) := by decide +kernel
abbrev mX7_holds : ks_M := (RX7, cX7_holds, 5, (some .boolean), "holds")
theorem dX7_holds_0 : decode cX7_holds 0 = .ok (.iload_n 0, 1) := by decide +kernel
theorem dX7_holds_1 : decode cX7_holds 1 = .ok (.tableswitch 143 154 161 #[47, 65, 83, 83, 95, 107, 119, 131], 47) := by decide +kernel
theorem dX7_holds_48 : decode cX7_holds 48 = .ok (.lload_n 1, 1) := by decide +kernel
theorem dX7_holds_49 : decode cX7_holds 49 = .ok (.lconst 0, 1) := by decide +kernel
theorem dX7_holds_50 : decode cX7_holds 50 = .ok (.lcmp, 1) := by decide +kernel
theorem dX7_holds_51 : decode cX7_holds 51 = .ok (.ifCond .eq 13, 3) := by decide +kernel
theorem dX7_holds_54 : decode cX7_holds 54 = .ok (.lload_n 3, 1) := by decide +kernel
theorem dX7_holds_55 : decode cX7_holds 55 = .ok (.lconst 0, 1) := by decide +kernel
theorem dX7_holds_56 : decode cX7_holds 56 = .ok (.lcmp, 1) := by decide +kernel
theorem dX7_holds_57 : decode cX7_holds 57 = .ok (.ifCond .eq 7, 3) := by decide +kernel
theorem dX7_holds_60 : decode cX7_holds 60 = .ok (.iconst 1, 1) := by decide +kernel
theorem dX7_holds_61 : decode cX7_holds 61 = .ok (.goto 4, 3) := by decide +kernel
theorem dX7_holds_64 : decode cX7_holds 64 = .ok (.iconst 0, 1) := by decide +kernel
theorem dX7_holds_65 : decode cX7_holds 65 = .ok (.ireturn, 1) := by decide +kernel
theorem dX7_holds_66 : decode cX7_holds 66 = .ok (.lload_n 1, 1) := by decide +kernel
theorem dX7_holds_67 : decode cX7_holds 67 = .ok (.lconst 0, 1) := by decide +kernel
theorem dX7_holds_68 : decode cX7_holds 68 = .ok (.lcmp, 1) := by decide +kernel
theorem dX7_holds_69 : decode cX7_holds 69 = .ok (.ifCond .ne 9, 3) := by decide +kernel
theorem dX7_holds_72 : decode cX7_holds 72 = .ok (.lload_n 3, 1) := by decide +kernel
theorem dX7_holds_73 : decode cX7_holds 73 = .ok (.lconst 0, 1) := by decide +kernel
theorem dX7_holds_74 : decode cX7_holds 74 = .ok (.lcmp, 1) := by decide +kernel
theorem dX7_holds_75 : decode cX7_holds 75 = .ok (.ifCond .eq 7, 3) := by decide +kernel
theorem dX7_holds_78 : decode cX7_holds 78 = .ok (.iconst 1, 1) := by decide +kernel
theorem dX7_holds_79 : decode cX7_holds 79 = .ok (.goto 4, 3) := by decide +kernel
theorem dX7_holds_82 : decode cX7_holds 82 = .ok (.iconst 0, 1) := by decide +kernel
theorem dX7_holds_83 : decode cX7_holds 83 = .ok (.ireturn, 1) := by decide +kernel
theorem dX7_holds_84 : decode cX7_holds 84 = .ok (.lload_n 1, 1) := by decide +kernel
theorem dX7_holds_85 : decode cX7_holds 85 = .ok (.lload_n 3, 1) := by decide +kernel
theorem dX7_holds_86 : decode cX7_holds 86 = .ok (.lcmp, 1) := by decide +kernel
theorem dX7_holds_87 : decode cX7_holds 87 = .ok (.ifCond .ne 7, 3) := by decide +kernel
theorem dX7_holds_90 : decode cX7_holds 90 = .ok (.iconst 1, 1) := by decide +kernel
theorem dX7_holds_91 : decode cX7_holds 91 = .ok (.goto 4, 3) := by decide +kernel
theorem dX7_holds_94 : decode cX7_holds 94 = .ok (.iconst 0, 1) := by decide +kernel
theorem dX7_holds_95 : decode cX7_holds 95 = .ok (.ireturn, 1) := by decide +kernel
theorem dX7_holds_96 : decode cX7_holds 96 = .ok (.lload_n 1, 1) := by decide +kernel
theorem dX7_holds_97 : decode cX7_holds 97 = .ok (.lload_n 3, 1) := by decide +kernel
theorem dX7_holds_98 : decode cX7_holds 98 = .ok (.lcmp, 1) := by decide +kernel
theorem dX7_holds_99 : decode cX7_holds 99 = .ok (.ifCond .eq 7, 3) := by decide +kernel
theorem dX7_holds_102 : decode cX7_holds 102 = .ok (.iconst 1, 1) := by decide +kernel
theorem dX7_holds_103 : decode cX7_holds 103 = .ok (.goto 4, 3) := by decide +kernel
theorem dX7_holds_106 : decode cX7_holds 106 = .ok (.iconst 0, 1) := by decide +kernel
theorem dX7_holds_107 : decode cX7_holds 107 = .ok (.ireturn, 1) := by decide +kernel
theorem dX7_holds_108 : decode cX7_holds 108 = .ok (.lload_n 1, 1) := by decide +kernel
theorem dX7_holds_109 : decode cX7_holds 109 = .ok (.lload_n 3, 1) := by decide +kernel
theorem dX7_holds_110 : decode cX7_holds 110 = .ok (.lcmp, 1) := by decide +kernel
theorem dX7_holds_111 : decode cX7_holds 111 = .ok (.ifCond .ge 7, 3) := by decide +kernel
theorem dX7_holds_114 : decode cX7_holds 114 = .ok (.iconst 1, 1) := by decide +kernel
theorem dX7_holds_115 : decode cX7_holds 115 = .ok (.goto 4, 3) := by decide +kernel
theorem dX7_holds_118 : decode cX7_holds 118 = .ok (.iconst 0, 1) := by decide +kernel
theorem dX7_holds_119 : decode cX7_holds 119 = .ok (.ireturn, 1) := by decide +kernel
theorem dX7_holds_120 : decode cX7_holds 120 = .ok (.lload_n 1, 1) := by decide +kernel
theorem dX7_holds_121 : decode cX7_holds 121 = .ok (.lload_n 3, 1) := by decide +kernel
theorem dX7_holds_122 : decode cX7_holds 122 = .ok (.lcmp, 1) := by decide +kernel
theorem dX7_holds_123 : decode cX7_holds 123 = .ok (.ifCond .le 7, 3) := by decide +kernel
theorem dX7_holds_126 : decode cX7_holds 126 = .ok (.iconst 1, 1) := by decide +kernel
theorem dX7_holds_127 : decode cX7_holds 127 = .ok (.goto 4, 3) := by decide +kernel
theorem dX7_holds_130 : decode cX7_holds 130 = .ok (.iconst 0, 1) := by decide +kernel
theorem dX7_holds_131 : decode cX7_holds 131 = .ok (.ireturn, 1) := by decide +kernel
theorem dX7_holds_132 : decode cX7_holds 132 = .ok (.lload_n 1, 1) := by decide +kernel
theorem dX7_holds_133 : decode cX7_holds 133 = .ok (.lload_n 3, 1) := by decide +kernel
theorem dX7_holds_134 : decode cX7_holds 134 = .ok (.lcmp, 1) := by decide +kernel
theorem dX7_holds_135 : decode cX7_holds 135 = .ok (.ifCond .gt 7, 3) := by decide +kernel
theorem dX7_holds_138 : decode cX7_holds 138 = .ok (.iconst 1, 1) := by decide +kernel
theorem dX7_holds_139 : decode cX7_holds 139 = .ok (.goto 4, 3) := by decide +kernel
theorem dX7_holds_142 : decode cX7_holds 142 = .ok (.iconst 0, 1) := by decide +kernel
theorem dX7_holds_143 : decode cX7_holds 143 = .ok (.ireturn, 1) := by decide +kernel
theorem dX7_holds_144 : decode cX7_holds 144 = .ok (.lload_n 1, 1) := by decide +kernel
theorem dX7_holds_145 : decode cX7_holds 145 = .ok (.lload_n 3, 1) := by decide +kernel
theorem dX7_holds_146 : decode cX7_holds 146 = .ok (.lcmp, 1) := by decide +kernel
theorem dX7_holds_147 : decode cX7_holds 147 = .ok (.ifCond .lt 7, 3) := by decide +kernel
theorem dX7_holds_150 : decode cX7_holds 150 = .ok (.iconst 1, 1) := by decide +kernel
theorem dX7_holds_151 : decode cX7_holds 151 = .ok (.goto 4, 3) := by decide +kernel
theorem dX7_holds_154 : decode cX7_holds 154 = .ok (.iconst 0, 1) := by decide +kernel
theorem dX7_holds_155 : decode cX7_holds 155 = .ok (.ireturn, 1) := by decide +kernel
abbrev mX7_hashTop : ks_M := (RX7, cX7_hashTop, 5, (some .boolean), "hashTop")
theorem dX7_hashTop_0 : decode cX7_hashTop 0 = .ok (.aload_n 0, 1) := by decide +kernel
theorem dX7_hashTop_1 : decode cX7_hashTop 1 = .ok (.getfield 18, 3) := by decide +kernel
theorem dX7_hashTop_4 : decode cX7_hashTop 4 = .ok (.getfield 85, 3) := by decide +kernel
theorem dX7_hashTop_7 : decode cX7_hashTop 7 = .ok (.ifCond .ne 5, 3) := by decide +kernel
theorem dX7_hashTop_10 : decode cX7_hashTop 10 = .ok (.iconst 0, 1) := by decide +kernel
theorem dX7_hashTop_11 : decode cX7_hashTop 11 = .ok (.ireturn, 1) := by decide +kernel
theorem dX7_hashTop_12 : decode cX7_hashTop 12 = .ok (.aload_n 0, 1) := by decide +kernel
theorem dX7_hashTop_13 : decode cX7_hashTop 13 = .ok (.getfield 18, 3) := by decide +kernel
theorem dX7_hashTop_16 : decode cX7_hashTop 16 = .ok (.getfield 105, 3) := by decide +kernel
theorem dX7_hashTop_19 : decode cX7_hashTop 19 = .ok (.astore_n 2, 1) := by decide +kernel
theorem dX7_hashTop_20 : decode cX7_hashTop 20 = .ok (.aload_n 0, 1) := by decide +kernel
theorem dX7_hashTop_21 : decode cX7_hashTop 21 = .ok (.getfield 18, 3) := by decide +kernel
theorem dX7_hashTop_24 : decode cX7_hashTop 24 = .ok (.getfield 91, 3) := by decide +kernel
theorem dX7_hashTop_27 : decode cX7_hashTop 27 = .ok (.aload_n 0, 1) := by decide +kernel
theorem dX7_hashTop_28 : decode cX7_hashTop 28 = .ok (.getfield 18, 3) := by decide +kernel
theorem dX7_hashTop_31 : decode cX7_hashTop 31 = .ok (.getfield 85, 3) := by decide +kernel
theorem dX7_hashTop_34 : decode cX7_hashTop 34 = .ok (.iconst 1, 1) := by decide +kernel
theorem dX7_hashTop_35 : decode cX7_hashTop 35 = .ok (.isub, 1) := by decide +kernel
theorem dX7_hashTop_36 : decode cX7_hashTop 36 = .ok (.iaload, 1) := by decide +kernel
theorem dX7_hashTop_37 : decode cX7_hashTop 37 = .ok (.istore_n 3, 1) := by decide +kernel
theorem dX7_hashTop_38 : decode cX7_hashTop 38 = .ok (.aload_n 0, 1) := by decide +kernel
theorem dX7_hashTop_39 : decode cX7_hashTop 39 = .ok (.getfield 18, 3) := by decide +kernel
theorem dX7_hashTop_42 : decode cX7_hashTop 42 = .ok (.getfield 94, 3) := by decide +kernel
theorem dX7_hashTop_45 : decode cX7_hashTop 45 = .ok (.aload_n 0, 1) := by decide +kernel
theorem dX7_hashTop_46 : decode cX7_hashTop 46 = .ok (.getfield 18, 3) := by decide +kernel
theorem dX7_hashTop_49 : decode cX7_hashTop 49 = .ok (.getfield 85, 3) := by decide +kernel
theorem dX7_hashTop_52 : decode cX7_hashTop 52 = .ok (.iconst 1, 1) := by decide +kernel
theorem dX7_hashTop_53 : decode cX7_hashTop 53 = .ok (.isub, 1) := by decide +kernel
theorem dX7_hashTop_54 : decode cX7_hashTop 54 = .ok (.iaload, 1) := by decide +kernel
theorem dX7_hashTop_55 : decode cX7_hashTop 55 = .ok (.istore 4, 2) := by decide +kernel
theorem dX7_hashTop_57 : decode cX7_hashTop 57 = .ok (.iload_n 1, 1) := by decide +kernel
theorem dX7_hashTop_58 : decode cX7_hashTop 58 = .ok (.sipush 166, 3) := by decide +kernel
theorem dX7_hashTop_61 : decode cX7_hashTop 61 = .ok (.if_icmp .ne 22, 3) := by decide +kernel
theorem dX7_hashTop_64 : decode cX7_hashTop 64 = .ok (.aload_n 0, 1) := by decide +kernel
theorem dX7_hashTop_65 : decode cX7_hashTop 65 = .ok (.getfield 38, 3) := by decide +kernel
theorem dX7_hashTop_68 : decode cX7_hashTop 68 = .ok (.aload_n 2, 1) := by decide +kernel
theorem dX7_hashTop_69 : decode cX7_hashTop 69 = .ok (.iload_n 3, 1) := by decide +kernel
theorem dX7_hashTop_70 : decode cX7_hashTop 70 = .ok (.iload 4, 2) := by decide +kernel
theorem dX7_hashTop_72 : decode cX7_hashTop 72 = .ok (.aload_n 0, 1) := by decide +kernel
theorem dX7_hashTop_73 : decode cX7_hashTop 73 = .ok (.getfield 9, 3) := by decide +kernel
theorem dX7_hashTop_76 : decode cX7_hashTop 76 = .ok (.iconst 0, 1) := by decide +kernel
theorem dX7_hashTop_77 : decode cX7_hashTop 77 = .ok (.invokevirtual 245, 3) := by decide +kernel
theorem dX7_hashTop_80 : decode cX7_hashTop 80 = .ok (.goto 19, 3) := by decide +kernel
theorem dX7_hashTop_83 : decode cX7_hashTop 83 = .ok (.aload_n 0, 1) := by decide +kernel
theorem dX7_hashTop_84 : decode cX7_hashTop 84 = .ok (.getfield 38, 3) := by decide +kernel
theorem dX7_hashTop_87 : decode cX7_hashTop 87 = .ok (.aload_n 2, 1) := by decide +kernel
theorem dX7_hashTop_88 : decode cX7_hashTop 88 = .ok (.iload_n 3, 1) := by decide +kernel
theorem dX7_hashTop_89 : decode cX7_hashTop 89 = .ok (.iload 4, 2) := by decide +kernel
theorem dX7_hashTop_91 : decode cX7_hashTop 91 = .ok (.aload_n 0, 1) := by decide +kernel
theorem dX7_hashTop_92 : decode cX7_hashTop 92 = .ok (.getfield 9, 3) := by decide +kernel
theorem dX7_hashTop_95 : decode cX7_hashTop 95 = .ok (.iconst 0, 1) := by decide +kernel
theorem dX7_hashTop_96 : decode cX7_hashTop 96 = .ok (.invokevirtual 125, 3) := by decide +kernel
theorem dX7_hashTop_99 : decode cX7_hashTop 99 = .ok (.iload_n 1, 1) := by decide +kernel
theorem dX7_hashTop_100 : decode cX7_hashTop 100 = .ok (.sipush 169, 3) := by decide +kernel
theorem dX7_hashTop_103 : decode cX7_hashTop 103 = .ok (.if_icmp .ne 25, 3) := by decide +kernel
theorem dX7_hashTop_106 : decode cX7_hashTop 106 = .ok (.aload_n 0, 1) := by decide +kernel
theorem dX7_hashTop_107 : decode cX7_hashTop 107 = .ok (.getfield 38, 3) := by decide +kernel
theorem dX7_hashTop_110 : decode cX7_hashTop 110 = .ok (.aload_n 0, 1) := by decide +kernel
theorem dX7_hashTop_111 : decode cX7_hashTop 111 = .ok (.getfield 9, 3) := by decide +kernel
theorem dX7_hashTop_114 : decode cX7_hashTop 114 = .ok (.iconst 0, 1) := by decide +kernel
theorem dX7_hashTop_115 : decode cX7_hashTop 115 = .ok (.bipush 32, 2) := by decide +kernel
theorem dX7_hashTop_117 : decode cX7_hashTop 117 = .ok (.aload_n 0, 1) := by decide +kernel
theorem dX7_hashTop_118 : decode cX7_hashTop 118 = .ok (.getfield 9, 3) := by decide +kernel
theorem dX7_hashTop_121 : decode cX7_hashTop 121 = .ok (.iconst 0, 1) := by decide +kernel
theorem dX7_hashTop_122 : decode cX7_hashTop 122 = .ok (.invokevirtual 245, 3) := by decide +kernel
theorem dX7_hashTop_125 : decode cX7_hashTop 125 = .ok (.goto 29, 3) := by decide +kernel
theorem dX7_hashTop_128 : decode cX7_hashTop 128 = .ok (.iload_n 1, 1) := by decide +kernel
theorem dX7_hashTop_129 : decode cX7_hashTop 129 = .ok (.sipush 170, 3) := by decide +kernel
theorem dX7_hashTop_132 : decode cX7_hashTop 132 = .ok (.if_icmp .ne 22, 3) := by decide +kernel
theorem dX7_hashTop_135 : decode cX7_hashTop 135 = .ok (.aload_n 0, 1) := by decide +kernel
theorem dX7_hashTop_136 : decode cX7_hashTop 136 = .ok (.getfield 38, 3) := by decide +kernel
theorem dX7_hashTop_139 : decode cX7_hashTop 139 = .ok (.aload_n 0, 1) := by decide +kernel
theorem dX7_hashTop_140 : decode cX7_hashTop 140 = .ok (.getfield 9, 3) := by decide +kernel
theorem dX7_hashTop_143 : decode cX7_hashTop 143 = .ok (.iconst 0, 1) := by decide +kernel
theorem dX7_hashTop_144 : decode cX7_hashTop 144 = .ok (.bipush 32, 2) := by decide +kernel
theorem dX7_hashTop_146 : decode cX7_hashTop 146 = .ok (.aload_n 0, 1) := by decide +kernel
theorem dX7_hashTop_147 : decode cX7_hashTop 147 = .ok (.getfield 9, 3) := by decide +kernel
theorem dX7_hashTop_150 : decode cX7_hashTop 150 = .ok (.iconst 0, 1) := by decide +kernel
theorem dX7_hashTop_151 : decode cX7_hashTop 151 = .ok (.invokevirtual 125, 3) := by decide +kernel
theorem dX7_hashTop_154 : decode cX7_hashTop 154 = .ok (.aload_n 0, 1) := by decide +kernel
theorem dX7_hashTop_155 : decode cX7_hashTop 155 = .ok (.getfield 18, 3) := by decide +kernel
theorem dX7_hashTop_158 : decode cX7_hashTop 158 = .ok (.iconst 1, 1) := by decide +kernel
theorem dX7_hashTop_159 : decode cX7_hashTop 159 = .ok (.invokevirtual 101, 3) := by decide +kernel
theorem dX7_hashTop_162 : decode cX7_hashTop 162 = .ok (.ifCond .eq 43, 3) := by decide +kernel
theorem dX7_hashTop_165 : decode cX7_hashTop 165 = .ok (.aload_n 0, 1) := by decide +kernel
theorem dX7_hashTop_166 : decode cX7_hashTop 166 = .ok (.getfield 18, 3) := by decide +kernel
theorem dX7_hashTop_169 : decode cX7_hashTop 169 = .ok (.aload_n 0, 1) := by decide +kernel
theorem dX7_hashTop_170 : decode cX7_hashTop 170 = .ok (.getfield 9, 3) := by decide +kernel
theorem dX7_hashTop_173 : decode cX7_hashTop 173 = .ok (.iconst 0, 1) := by decide +kernel
theorem dX7_hashTop_174 : decode cX7_hashTop 174 = .ok (.iload_n 1, 1) := by decide +kernel
theorem dX7_hashTop_175 : decode cX7_hashTop 175 = .ok (.sipush 166, 3) := by decide +kernel
theorem dX7_hashTop_178 : decode cX7_hashTop 178 = .ok (.if_icmp .eq 10, 3) := by decide +kernel
theorem dX7_hashTop_181 : decode cX7_hashTop 181 = .ok (.iload_n 1, 1) := by decide +kernel
theorem dX7_hashTop_182 : decode cX7_hashTop 182 = .ok (.sipush 169, 3) := by decide +kernel
theorem dX7_hashTop_185 : decode cX7_hashTop 185 = .ok (.if_icmp .ne 8, 3) := by decide +kernel
theorem dX7_hashTop_188 : decode cX7_hashTop 188 = .ok (.bipush 20, 2) := by decide +kernel
theorem dX7_hashTop_190 : decode cX7_hashTop 190 = .ok (.goto 5, 3) := by decide +kernel
theorem dX7_hashTop_193 : decode cX7_hashTop 193 = .ok (.bipush 32, 2) := by decide +kernel
theorem dX7_hashTop_195 : decode cX7_hashTop 195 = .ok (.invokevirtual 167, 3) := by decide +kernel
theorem dX7_hashTop_198 : decode cX7_hashTop 198 = .ok (.ifCond .eq 7, 3) := by decide +kernel
theorem dX7_hashTop_201 : decode cX7_hashTop 201 = .ok (.iconst 1, 1) := by decide +kernel
theorem dX7_hashTop_202 : decode cX7_hashTop 202 = .ok (.goto 4, 3) := by decide +kernel
theorem dX7_hashTop_205 : decode cX7_hashTop 205 = .ok (.iconst 0, 1) := by decide +kernel
theorem dX7_hashTop_206 : decode cX7_hashTop 206 = .ok (.ireturn, 1) := by decide +kernel
abbrev mX7_ask : ks_M := (RX7, cX7_ask, 10, (some .boolean), "ask")
theorem dX7_ask_0 : decode cX7_ask 0 = .ok (.iload_n 1, 1) := by decide +kernel
theorem dX7_ask_1 : decode cX7_ask 1 = .ok (.sipush 174, 3) := by decide +kernel
theorem dX7_ask_4 : decode cX7_ask 4 = .ok (.if_icmp .ge 10, 3) := by decide +kernel
theorem dX7_ask_7 : decode cX7_ask 7 = .ok (.aload_n 0, 1) := by decide +kernel
theorem dX7_ask_8 : decode cX7_ask 8 = .ok (.invokevirtual 248, 3) := by decide +kernel
theorem dX7_ask_11 : decode cX7_ask 11 = .ok (.goto 7, 3) := by decide +kernel
theorem dX7_ask_14 : decode cX7_ask 14 = .ok (.aload_n 0, 1) := by decide +kernel
theorem dX7_ask_15 : decode cX7_ask 15 = .ok (.invokevirtual 252, 3) := by decide +kernel
theorem dX7_ask_18 : decode cX7_ask 18 = .ok (.istore_n 2, 1) := by decide +kernel
theorem dX7_ask_19 : decode cX7_ask 19 = .ok (.iload_n 2, 1) := by decide +kernel
theorem dX7_ask_20 : decode cX7_ask 20 = .ok (.ifCond .ge 5, 3) := by decide +kernel
theorem dX7_ask_23 : decode cX7_ask 23 = .ok (.iconst 0, 1) := by decide +kernel
theorem dX7_ask_24 : decode cX7_ask 24 = .ok (.ireturn, 1) := by decide +kernel
theorem dX7_ask_25 : decode cX7_ask 25 = .ok (.aload_n 0, 1) := by decide +kernel
theorem dX7_ask_26 : decode cX7_ask 26 = .ok (.aload_n 0, 1) := by decide +kernel
theorem dX7_ask_27 : decode cX7_ask 27 = .ok (.getfield 137, 3) := by decide +kernel
theorem dX7_ask_30 : decode cX7_ask 30 = .ok (.aload_n 0, 1) := by decide +kernel
theorem dX7_ask_31 : decode cX7_ask 31 = .ok (.getfield 145, 3) := by decide +kernel
theorem dX7_ask_34 : decode cX7_ask 34 = .ok (.aload_n 0, 1) := by decide +kernel
theorem dX7_ask_35 : decode cX7_ask 35 = .ok (.getfield 142, 3) := by decide +kernel
theorem dX7_ask_38 : decode cX7_ask 38 = .ok (.aload_n 0, 1) := by decide +kernel
theorem dX7_ask_39 : decode cX7_ask 39 = .ok (.getfield 255, 3) := by decide +kernel
theorem dX7_ask_42 : decode cX7_ask 42 = .ok (.invokevirtual 258, 3) := by decide +kernel
theorem dX7_ask_45 : decode cX7_ask 45 = .ok (.aload_n 0, 1) := by decide +kernel
theorem dX7_ask_46 : decode cX7_ask 46 = .ok (.getfield 262, 3) := by decide +kernel
theorem dX7_ask_49 : decode cX7_ask 49 = .ok (.istore_n 3, 1) := by decide +kernel
theorem dX7_ask_50 : decode cX7_ask 50 = .ok (.aload_n 0, 1) := by decide +kernel
theorem dX7_ask_51 : decode cX7_ask 51 = .ok (.getfield 255, 3) := by decide +kernel
theorem dX7_ask_54 : decode cX7_ask 54 = .ok (.istore 4, 2) := by decide +kernel
theorem dX7_ask_56 : decode cX7_ask 56 = .ok (.iconst 0, 1) := by decide +kernel
theorem dX7_ask_57 : decode cX7_ask 57 = .ok (.istore 5, 2) := by decide +kernel
theorem dX7_ask_59 : decode cX7_ask 59 = .ok (.iload 5, 2) := by decide +kernel
theorem dX7_ask_61 : decode cX7_ask 61 = .ok (.bipush 20, 2) := by decide +kernel
theorem dX7_ask_63 : decode cX7_ask 63 = .ok (.if_icmp .ge 272, 3) := by decide +kernel
theorem dX7_ask_66 : decode cX7_ask 66 = .ok (.iload 4, 2) := by decide +kernel
theorem dX7_ask_68 : decode cX7_ask 68 = .ok (.ifCond .le 267, 3) := by decide +kernel
theorem dX7_ask_71 : decode cX7_ask 71 = .ok (.iload 4, 2) := by decide +kernel
theorem dX7_ask_73 : decode cX7_ask 73 = .ok (.iload_n 3, 1) := by decide +kernel
theorem dX7_ask_74 : decode cX7_ask 74 = .ok (.if_icmp .gt 261, 3) := by decide +kernel
theorem dX7_ask_77 : decode cX7_ask 77 = .ok (.aload_n 0, 1) := by decide +kernel
theorem dX7_ask_78 : decode cX7_ask 78 = .ok (.getfield 265, 3) := by decide +kernel
theorem dX7_ask_81 : decode cX7_ask 81 = .ok (.aload_n 0, 1) := by decide +kernel
theorem dX7_ask_82 : decode cX7_ask 82 = .ok (.getfield 262, 3) := by decide +kernel
theorem dX7_ask_85 : decode cX7_ask 85 = .ok (.iload_n 3, 1) := by decide +kernel
theorem dX7_ask_86 : decode cX7_ask 86 = .ok (.isub, 1) := by decide +kernel
theorem dX7_ask_87 : decode cX7_ask 87 = .ok (.isub, 1) := by decide +kernel
theorem dX7_ask_88 : decode cX7_ask 88 = .ok (.istore 6, 2) := by decide +kernel
theorem dX7_ask_90 : decode cX7_ask 90 = .ok (.aload_n 0, 1) := by decide +kernel
theorem dX7_ask_91 : decode cX7_ask 91 = .ok (.getfield 268, 3) := by decide +kernel
theorem dX7_ask_94 : decode cX7_ask 94 = .ok (.aload_n 0, 1) := by decide +kernel
theorem dX7_ask_95 : decode cX7_ask 95 = .ok (.getfield 255, 3) := by decide +kernel
theorem dX7_ask_98 : decode cX7_ask 98 = .ok (.iload 4, 2) := by decide +kernel
theorem dX7_ask_100 : decode cX7_ask 100 = .ok (.isub, 1) := by decide +kernel
theorem dX7_ask_101 : decode cX7_ask 101 = .ok (.isub, 1) := by decide +kernel
theorem dX7_ask_102 : decode cX7_ask 102 = .ok (.istore 7, 2) := by decide +kernel
theorem dX7_ask_104 : decode cX7_ask 104 = .ok (.aload_n 0, 1) := by decide +kernel
theorem dX7_ask_105 : decode cX7_ask 105 = .ok (.getfield 18, 3) := by decide +kernel
theorem dX7_ask_108 : decode cX7_ask 108 = .ok (.getfield 91, 3) := by decide +kernel
theorem dX7_ask_111 : decode cX7_ask 111 = .ok (.iload 7, 2) := by decide +kernel
theorem dX7_ask_113 : decode cX7_ask 113 = .ok (.iaload, 1) := by decide +kernel
theorem dX7_ask_114 : decode cX7_ask 114 = .ok (.aload_n 0, 1) := by decide +kernel
theorem dX7_ask_115 : decode cX7_ask 115 = .ok (.getfield 18, 3) := by decide +kernel
theorem dX7_ask_118 : decode cX7_ask 118 = .ok (.getfield 94, 3) := by decide +kernel
theorem dX7_ask_121 : decode cX7_ask 121 = .ok (.iload 7, 2) := by decide +kernel
theorem dX7_ask_123 : decode cX7_ask 123 = .ok (.iaload, 1) := by decide +kernel
theorem dX7_ask_124 : decode cX7_ask 124 = .ok (.iadd, 1) := by decide +kernel
theorem dX7_ask_125 : decode cX7_ask 125 = .ok (.iconst 1, 1) := by decide +kernel
theorem dX7_ask_126 : decode cX7_ask 126 = .ok (.isub, 1) := by decide +kernel
theorem dX7_ask_127 : decode cX7_ask 127 = .ok (.istore 8, 2) := by decide +kernel
theorem dX7_ask_129 : decode cX7_ask 129 = .ok (.aload_n 0, 1) := by decide +kernel
theorem dX7_ask_130 : decode cX7_ask 130 = .ok (.getfield 18, 3) := by decide +kernel
theorem dX7_ask_133 : decode cX7_ask 133 = .ok (.getfield 94, 3) := by decide +kernel
theorem dX7_ask_136 : decode cX7_ask 136 = .ok (.iload 7, 2) := by decide +kernel
theorem dX7_ask_138 : decode cX7_ask 138 = .ok (.iaload, 1) := by decide +kernel
theorem dX7_ask_139 : decode cX7_ask 139 = .ok (.ifCond .le 7, 3) := by decide +kernel
theorem dX7_ask_142 : decode cX7_ask 142 = .ok (.iconst 1, 1) := by decide +kernel
theorem dX7_ask_143 : decode cX7_ask 143 = .ok (.goto 4, 3) := by decide +kernel
theorem dX7_ask_146 : decode cX7_ask 146 = .ok (.iconst 0, 1) := by decide +kernel
theorem dX7_ask_147 : decode cX7_ask 147 = .ok (.istore 9, 2) := by decide +kernel
theorem dX7_ask_149 : decode cX7_ask 149 = .ok (.iload 9, 2) := by decide +kernel
theorem dX7_ask_151 : decode cX7_ask 151 = .ok (.ifCond .eq 42, 3) := by decide +kernel
theorem dX7_ask_154 : decode cX7_ask 154 = .ok (.aload_n 0, 1) := by decide +kernel
theorem dX7_ask_155 : decode cX7_ask 155 = .ok (.getfield 42, 3) := by decide +kernel
theorem dX7_ask_158 : decode cX7_ask 158 = .ok (.aload_n 0, 1) := by decide +kernel
theorem dX7_ask_159 : decode cX7_ask 159 = .ok (.getfield 18, 3) := by decide +kernel
theorem dX7_ask_162 : decode cX7_ask 162 = .ok (.getfield 105, 3) := by decide +kernel
theorem dX7_ask_165 : decode cX7_ask 165 = .ok (.aload_n 0, 1) := by decide +kernel
theorem dX7_ask_166 : decode cX7_ask 166 = .ok (.getfield 18, 3) := by decide +kernel
theorem dX7_ask_169 : decode cX7_ask 169 = .ok (.getfield 91, 3) := by decide +kernel
theorem dX7_ask_172 : decode cX7_ask 172 = .ok (.iload 7, 2) := by decide +kernel
theorem dX7_ask_174 : decode cX7_ask 174 = .ok (.iaload, 1) := by decide +kernel
theorem dX7_ask_175 : decode cX7_ask 175 = .ok (.aload_n 0, 1) := by decide +kernel
theorem dX7_ask_176 : decode cX7_ask 176 = .ok (.getfield 18, 3) := by decide +kernel
theorem dX7_ask_179 : decode cX7_ask 179 = .ok (.getfield 94, 3) := by decide +kernel
theorem dX7_ask_182 : decode cX7_ask 182 = .ok (.iload 7, 2) := by decide +kernel
theorem dX7_ask_184 : decode cX7_ask 184 = .ok (.iaload, 1) := by decide +kernel
theorem dX7_ask_185 : decode cX7_ask 185 = .ok (.invokevirtual 271, 3) := by decide +kernel
theorem dX7_ask_188 : decode cX7_ask 188 = .ok (.ifCond .ne 5, 3) := by decide +kernel
theorem dX7_ask_191 : decode cX7_ask 191 = .ok (.iconst 0, 1) := by decide +kernel
theorem dX7_ask_192 : decode cX7_ask 192 = .ok (.ireturn, 1) := by decide +kernel
theorem dX7_ask_193 : decode cX7_ask 193 = .ok (.iload 9, 2) := by decide +kernel
theorem dX7_ask_195 : decode cX7_ask 195 = .ok (.ifCond .eq 82, 3) := by decide +kernel
theorem dX7_ask_198 : decode cX7_ask 198 = .ok (.aload_n 0, 1) := by decide +kernel
theorem dX7_ask_199 : decode cX7_ask 199 = .ok (.getfield 42, 3) := by decide +kernel
theorem dX7_ask_202 : decode cX7_ask 202 = .ok (.aload_n 0, 1) := by decide +kernel
theorem dX7_ask_203 : decode cX7_ask 203 = .ok (.getfield 18, 3) := by decide +kernel
theorem dX7_ask_206 : decode cX7_ask 206 = .ok (.getfield 105, 3) := by decide +kernel
theorem dX7_ask_209 : decode cX7_ask 209 = .ok (.aload_n 0, 1) := by decide +kernel
theorem dX7_ask_210 : decode cX7_ask 210 = .ok (.getfield 18, 3) := by decide +kernel
theorem dX7_ask_213 : decode cX7_ask 213 = .ok (.getfield 91, 3) := by decide +kernel
theorem dX7_ask_216 : decode cX7_ask 216 = .ok (.iload 6, 2) := by decide +kernel
theorem dX7_ask_218 : decode cX7_ask 218 = .ok (.iaload, 1) := by decide +kernel
theorem dX7_ask_219 : decode cX7_ask 219 = .ok (.aload_n 0, 1) := by decide +kernel
theorem dX7_ask_220 : decode cX7_ask 220 = .ok (.getfield 18, 3) := by decide +kernel
theorem dX7_ask_223 : decode cX7_ask 223 = .ok (.getfield 94, 3) := by decide +kernel
theorem dX7_ask_226 : decode cX7_ask 226 = .ok (.iload 6, 2) := by decide +kernel
theorem dX7_ask_228 : decode cX7_ask 228 = .ok (.iaload, 1) := by decide +kernel
theorem dX7_ask_229 : decode cX7_ask 229 = .ok (.invokevirtual 276, 3) := by decide +kernel
theorem dX7_ask_232 : decode cX7_ask 232 = .ok (.ifCond .eq 45, 3) := by decide +kernel
theorem dX7_ask_235 : decode cX7_ask 235 = .ok (.aload_n 0, 1) := by decide +kernel
theorem dX7_ask_236 : decode cX7_ask 236 = .ok (.aload_n 0, 1) := by decide +kernel
theorem dX7_ask_237 : decode cX7_ask 237 = .ok (.getfield 58, 3) := by decide +kernel
theorem dX7_ask_240 : decode cX7_ask 240 = .ok (.aload_n 0, 1) := by decide +kernel
theorem dX7_ask_241 : decode cX7_ask 241 = .ok (.getfield 62, 3) := by decide +kernel
theorem dX7_ask_244 : decode cX7_ask 244 = .ok (.aload_n 0, 1) := by decide +kernel
theorem dX7_ask_245 : decode cX7_ask 245 = .ok (.getfield 18, 3) := by decide +kernel
theorem dX7_ask_248 : decode cX7_ask 248 = .ok (.getfield 105, 3) := by decide +kernel
theorem dX7_ask_251 : decode cX7_ask 251 = .ok (.iload 8, 2) := by decide +kernel
theorem dX7_ask_253 : decode cX7_ask 253 = .ok (.baload, 1) := by decide +kernel
theorem dX7_ask_254 : decode cX7_ask 254 = .ok (.sipush 255, 3) := by decide +kernel
theorem dX7_ask_257 : decode cX7_ask 257 = .ok (.iand, 1) := by decide +kernel
theorem dX7_ask_258 : decode cX7_ask 258 = .ok (.invokevirtual 279, 3) := by decide +kernel
theorem dX7_ask_261 : decode cX7_ask 261 = .ok (.aload_n 0, 1) := by decide +kernel
theorem dX7_ask_262 : decode cX7_ask 262 = .ok (.getfield 42, 3) := by decide +kernel
theorem dX7_ask_265 : decode cX7_ask 265 = .ok (.aload_n 0, 1) := by decide +kernel
theorem dX7_ask_266 : decode cX7_ask 266 = .ok (.getfield 9, 3) := by decide +kernel
theorem dX7_ask_269 : decode cX7_ask 269 = .ok (.invokevirtual 283, 3) := by decide +kernel
theorem dX7_ask_272 : decode cX7_ask 272 = .ok (.istore 9, 2) := by decide +kernel
theorem dX7_ask_274 : decode cX7_ask 274 = .ok (.goto 6, 3) := by decide +kernel
theorem dX7_ask_277 : decode cX7_ask 277 = .ok (.iconst 0, 1) := by decide +kernel
theorem dX7_ask_278 : decode cX7_ask 278 = .ok (.istore 9, 2) := by decide +kernel
theorem dX7_ask_280 : decode cX7_ask 280 = .ok (.iload 9, 2) := by decide +kernel
theorem dX7_ask_282 : decode cX7_ask 282 = .ok (.ifCond .eq 29, 3) := by decide +kernel
theorem dX7_ask_285 : decode cX7_ask 285 = .ok (.aload_n 0, 1) := by decide +kernel
theorem dX7_ask_286 : decode cX7_ask 286 = .ok (.getfield 42, 3) := by decide +kernel
theorem dX7_ask_289 : decode cX7_ask 289 = .ok (.bipush 90, 2) := by decide +kernel
theorem dX7_ask_291 : decode cX7_ask 291 = .ok (.invokevirtual 287, 3) := by decide +kernel
theorem dX7_ask_294 : decode cX7_ask 294 = .ok (.aload_n 0, 1) := by decide +kernel
theorem dX7_ask_295 : decode cX7_ask 295 = .ok (.getfield 42, 3) := by decide +kernel
theorem dX7_ask_298 : decode cX7_ask 298 = .ok (.iconst 1, 1) := by decide +kernel
theorem dX7_ask_299 : decode cX7_ask 299 = .ok (.invokevirtual 290, 3) := by decide +kernel
theorem dX7_ask_302 : decode cX7_ask 302 = .ok (.aload_n 0, 1) := by decide +kernel
theorem dX7_ask_303 : decode cX7_ask 303 = .ok (.getfield 42, 3) := by decide +kernel
theorem dX7_ask_306 : decode cX7_ask 306 = .ok (.invokevirtual 294, 3) := by decide +kernel
theorem dX7_ask_309 : decode cX7_ask 309 = .ok (.istore 9, 2) := by decide +kernel
theorem dX7_ask_311 : decode cX7_ask 311 = .ok (.iinc 3 (-1), 3) := by decide +kernel
theorem dX7_ask_314 : decode cX7_ask 314 = .ok (.iload 4, 2) := by decide +kernel
theorem dX7_ask_316 : decode cX7_ask 316 = .ok (.iload 9, 2) := by decide +kernel
theorem dX7_ask_318 : decode cX7_ask 318 = .ok (.ifCond .eq 7, 3) := by decide +kernel
theorem dX7_ask_321 : decode cX7_ask 321 = .ok (.iconst 1, 1) := by decide +kernel
theorem dX7_ask_322 : decode cX7_ask 322 = .ok (.goto 4, 3) := by decide +kernel
theorem dX7_ask_325 : decode cX7_ask 325 = .ok (.iconst 0, 1) := by decide +kernel
theorem dX7_ask_326 : decode cX7_ask 326 = .ok (.isub, 1) := by decide +kernel
theorem dX7_ask_327 : decode cX7_ask 327 = .ok (.istore 4, 2) := by decide +kernel
theorem dX7_ask_329 : decode cX7_ask 329 = .ok (.iinc 5 1, 3) := by decide +kernel
theorem dX7_ask_332 : decode cX7_ask 332 = .ok (.goto (-273), 3) := by decide +kernel
theorem dX7_ask_335 : decode cX7_ask 335 = .ok (.aload_n 0, 1) := by decide +kernel
theorem dX7_ask_336 : decode cX7_ask 336 = .ok (.getfield 18, 3) := by decide +kernel
theorem dX7_ask_339 : decode cX7_ask 339 = .ok (.iload_n 2, 1) := by decide +kernel
theorem dX7_ask_340 : decode cX7_ask 340 = .ok (.invokevirtual 101, 3) := by decide +kernel
theorem dX7_ask_343 : decode cX7_ask 343 = .ok (.pop, 1) := by decide +kernel
theorem dX7_ask_344 : decode cX7_ask 344 = .ok (.iload_n 1, 1) := by decide +kernel
theorem dX7_ask_345 : decode cX7_ask 345 = .ok (.sipush 173, 3) := by decide +kernel
theorem dX7_ask_348 : decode cX7_ask 348 = .ok (.if_icmp .eq 10, 3) := by decide +kernel
theorem dX7_ask_351 : decode cX7_ask 351 = .ok (.iload_n 1, 1) := by decide +kernel
theorem dX7_ask_352 : decode cX7_ask 352 = .ok (.sipush 175, 3) := by decide +kernel
theorem dX7_ask_355 : decode cX7_ask 355 = .ok (.if_icmp .ne 16, 3) := by decide +kernel
theorem dX7_ask_358 : decode cX7_ask 358 = .ok (.iload 4, 2) := by decide +kernel
theorem dX7_ask_360 : decode cX7_ask 360 = .ok (.ifCond .ne 7, 3) := by decide +kernel
theorem dX7_ask_363 : decode cX7_ask 363 = .ok (.iconst 1, 1) := by decide +kernel
theorem dX7_ask_364 : decode cX7_ask 364 = .ok (.goto 24, 3) := by decide +kernel
theorem dX7_ask_367 : decode cX7_ask 367 = .ok (.iconst 0, 1) := by decide +kernel
theorem dX7_ask_368 : decode cX7_ask 368 = .ok (.goto 20, 3) := by decide +kernel
theorem dX7_ask_371 : decode cX7_ask 371 = .ok (.aload_n 0, 1) := by decide +kernel
theorem dX7_ask_372 : decode cX7_ask 372 = .ok (.getfield 18, 3) := by decide +kernel
theorem dX7_ask_375 : decode cX7_ask 375 = .ok (.iload 4, 2) := by decide +kernel
theorem dX7_ask_377 : decode cX7_ask 377 = .ok (.ifCond .ne 7, 3) := by decide +kernel
theorem dX7_ask_380 : decode cX7_ask 380 = .ok (.iconst 1, 1) := by decide +kernel
theorem dX7_ask_381 : decode cX7_ask 381 = .ok (.goto 4, 3) := by decide +kernel
theorem dX7_ask_384 : decode cX7_ask 384 = .ok (.iconst 0, 1) := by decide +kernel
theorem dX7_ask_385 : decode cX7_ask 385 = .ok (.invokevirtual 211, 3) := by decide +kernel
theorem dX7_ask_388 : decode cX7_ask 388 = .ok (.ireturn, 1) := by decide +kernel
abbrev mX7_gatherOne : ks_M := (RX7, cX7_gatherOne, 1, (some .int), "gatherOne")
theorem dX7_gatherOne_0 : decode cX7_gatherOne 0 = .ok (.aload_n 0, 1) := by decide +kernel
theorem dX7_gatherOne_1 : decode cX7_gatherOne 1 = .ok (.aload_n 0, 1) := by decide +kernel
theorem dX7_gatherOne_2 : decode cX7_gatherOne 2 = .ok (.getfield 18, 3) := by decide +kernel
theorem dX7_gatherOne_5 : decode cX7_gatherOne 5 = .ok (.getfield 85, 3) := by decide +kernel
theorem dX7_gatherOne_8 : decode cX7_gatherOne 8 = .ok (.iconst 1, 1) := by decide +kernel
theorem dX7_gatherOne_9 : decode cX7_gatherOne 9 = .ok (.isub, 1) := by decide +kernel
theorem dX7_gatherOne_10 : decode cX7_gatherOne 10 = .ok (.putfield 265, 3) := by decide +kernel
theorem dX7_gatherOne_13 : decode cX7_gatherOne 13 = .ok (.aload_n 0, 1) := by decide +kernel
theorem dX7_gatherOne_14 : decode cX7_gatherOne 14 = .ok (.iconst 1, 1) := by decide +kernel
theorem dX7_gatherOne_15 : decode cX7_gatherOne 15 = .ok (.putfield 262, 3) := by decide +kernel
theorem dX7_gatherOne_18 : decode cX7_gatherOne 18 = .ok (.aload_n 0, 1) := by decide +kernel
theorem dX7_gatherOne_19 : decode cX7_gatherOne 19 = .ok (.aload_n 0, 1) := by decide +kernel
theorem dX7_gatherOne_20 : decode cX7_gatherOne 20 = .ok (.getfield 18, 3) := by decide +kernel
theorem dX7_gatherOne_23 : decode cX7_gatherOne 23 = .ok (.getfield 85, 3) := by decide +kernel
theorem dX7_gatherOne_26 : decode cX7_gatherOne 26 = .ok (.iconst 2, 1) := by decide +kernel
theorem dX7_gatherOne_27 : decode cX7_gatherOne 27 = .ok (.isub, 1) := by decide +kernel
theorem dX7_gatherOne_28 : decode cX7_gatherOne 28 = .ok (.putfield 268, 3) := by decide +kernel
theorem dX7_gatherOne_31 : decode cX7_gatherOne 31 = .ok (.aload_n 0, 1) := by decide +kernel
theorem dX7_gatherOne_32 : decode cX7_gatherOne 32 = .ok (.iconst 1, 1) := by decide +kernel
theorem dX7_gatherOne_33 : decode cX7_gatherOne 33 = .ok (.putfield 255, 3) := by decide +kernel
theorem dX7_gatherOne_36 : decode cX7_gatherOne 36 = .ok (.aload_n 0, 1) := by decide +kernel
theorem dX7_gatherOne_37 : decode cX7_gatherOne 37 = .ok (.getfield 18, 3) := by decide +kernel
theorem dX7_gatherOne_40 : decode cX7_gatherOne 40 = .ok (.getfield 85, 3) := by decide +kernel
theorem dX7_gatherOne_43 : decode cX7_gatherOne 43 = .ok (.iconst 2, 1) := by decide +kernel
theorem dX7_gatherOne_44 : decode cX7_gatherOne 44 = .ok (.if_icmp .ge 7, 3) := by decide +kernel
theorem dX7_gatherOne_47 : decode cX7_gatherOne 47 = .ok (.iconst (-1), 1) := by decide +kernel
theorem dX7_gatherOne_48 : decode cX7_gatherOne 48 = .ok (.goto 4, 3) := by decide +kernel
theorem dX7_gatherOne_51 : decode cX7_gatherOne 51 = .ok (.iconst 2, 1) := by decide +kernel
theorem dX7_gatherOne_52 : decode cX7_gatherOne 52 = .ok (.ireturn, 1) := by decide +kernel
abbrev mX7_gatherMany : ks_M := (RX7, cX7_gatherMany, 6, (some .int), "gatherMany")
theorem dX7_gatherMany_0 : decode cX7_gatherMany 0 = .ok (.aload_n 0, 1) := by decide +kernel
theorem dX7_gatherMany_1 : decode cX7_gatherMany 1 = .ok (.getfield 18, 3) := by decide +kernel
theorem dX7_gatherMany_4 : decode cX7_gatherMany 4 = .ok (.iconst 0, 1) := by decide +kernel
theorem dX7_gatherMany_5 : decode cX7_gatherMany 5 = .ok (.iconst 4, 1) := by decide +kernel
theorem dX7_gatherMany_6 : decode cX7_gatherMany 6 = .ok (.invokevirtual 198, 3) := by decide +kernel
theorem dX7_gatherMany_9 : decode cX7_gatherMany 9 = .ok (.ifCond .ne 5, 3) := by decide +kernel
theorem dX7_gatherMany_12 : decode cX7_gatherMany 12 = .ok (.iconst (-1), 1) := by decide +kernel
theorem dX7_gatherMany_13 : decode cX7_gatherMany 13 = .ok (.ireturn, 1) := by decide +kernel
theorem dX7_gatherMany_14 : decode cX7_gatherMany 14 = .ok (.aload_n 0, 1) := by decide +kernel
theorem dX7_gatherMany_15 : decode cX7_gatherMany 15 = .ok (.getfield 18, 3) := by decide +kernel
theorem dX7_gatherMany_18 : decode cX7_gatherMany 18 = .ok (.iconst 0, 1) := by decide +kernel
theorem dX7_gatherMany_19 : decode cX7_gatherMany 19 = .ok (.invokevirtual 201, 3) := by decide +kernel
theorem dX7_gatherMany_22 : decode cX7_gatherMany 22 = .ok (.lstore_n 1, 1) := by decide +kernel
theorem dX7_gatherMany_23 : decode cX7_gatherMany 23 = .ok (.lload_n 1, 1) := by decide +kernel
theorem dX7_gatherMany_24 : decode cX7_gatherMany 24 = .ok (.lconst 0, 1) := by decide +kernel
theorem dX7_gatherMany_25 : decode cX7_gatherMany 25 = .ok (.lcmp, 1) := by decide +kernel
theorem dX7_gatherMany_26 : decode cX7_gatherMany 26 = .ok (.ifCond .lt 11, 3) := by decide +kernel
theorem dX7_gatherMany_29 : decode cX7_gatherMany 29 = .ok (.lload_n 1, 1) := by decide +kernel
theorem dX7_gatherMany_30 : decode cX7_gatherMany 30 = .ok (.ldc2_w 297, 3) := by decide +kernel
theorem dX7_gatherMany_33 : decode cX7_gatherMany 33 = .ok (.lcmp, 1) := by decide +kernel
theorem dX7_gatherMany_34 : decode cX7_gatherMany 34 = .ok (.ifCond .le 5, 3) := by decide +kernel
theorem dX7_gatherMany_37 : decode cX7_gatherMany 37 = .ok (.iconst (-1), 1) := by decide +kernel
theorem dX7_gatherMany_38 : decode cX7_gatherMany 38 = .ok (.ireturn, 1) := by decide +kernel
theorem dX7_gatherMany_39 : decode cX7_gatherMany 39 = .ok (.aload_n 0, 1) := by decide +kernel
theorem dX7_gatherMany_40 : decode cX7_gatherMany 40 = .ok (.lload_n 1, 1) := by decide +kernel
theorem dX7_gatherMany_41 : decode cX7_gatherMany 41 = .ok (.l2i, 1) := by decide +kernel
theorem dX7_gatherMany_42 : decode cX7_gatherMany 42 = .ok (.putfield 262, 3) := by decide +kernel
theorem dX7_gatherMany_45 : decode cX7_gatherMany 45 = .ok (.aload_n 0, 1) := by decide +kernel
theorem dX7_gatherMany_46 : decode cX7_gatherMany 46 = .ok (.aload_n 0, 1) := by decide +kernel
theorem dX7_gatherMany_47 : decode cX7_gatherMany 47 = .ok (.getfield 18, 3) := by decide +kernel
theorem dX7_gatherMany_50 : decode cX7_gatherMany 50 = .ok (.getfield 85, 3) := by decide +kernel
theorem dX7_gatherMany_53 : decode cX7_gatherMany 53 = .ok (.iconst 2, 1) := by decide +kernel
theorem dX7_gatherMany_54 : decode cX7_gatherMany 54 = .ok (.isub, 1) := by decide +kernel
theorem dX7_gatherMany_55 : decode cX7_gatherMany 55 = .ok (.putfield 265, 3) := by decide +kernel
theorem dX7_gatherMany_58 : decode cX7_gatherMany 58 = .ok (.aload_n 0, 1) := by decide +kernel
theorem dX7_gatherMany_59 : decode cX7_gatherMany 59 = .ok (.dup, 1) := by decide +kernel
theorem dX7_gatherMany_60 : decode cX7_gatherMany 60 = .ok (.getfield 148, 3) := by decide +kernel
theorem dX7_gatherMany_63 : decode cX7_gatherMany 63 = .ok (.aload_n 0, 1) := by decide +kernel
theorem dX7_gatherMany_64 : decode cX7_gatherMany 64 = .ok (.getfield 262, 3) := by decide +kernel
theorem dX7_gatherMany_67 : decode cX7_gatherMany 67 = .ok (.iadd, 1) := by decide +kernel
theorem dX7_gatherMany_68 : decode cX7_gatherMany 68 = .ok (.putfield 148, 3) := by decide +kernel
theorem dX7_gatherMany_71 : decode cX7_gatherMany 71 = .ok (.aload_n 0, 1) := by decide +kernel
theorem dX7_gatherMany_72 : decode cX7_gatherMany 72 = .ok (.getfield 148, 3) := by decide +kernel
theorem dX7_gatherMany_75 : decode cX7_gatherMany 75 = .ok (.sipush 201, 3) := by decide +kernel
theorem dX7_gatherMany_78 : decode cX7_gatherMany 78 = .ok (.if_icmp .gt 20, 3) := by decide +kernel
theorem dX7_gatherMany_81 : decode cX7_gatherMany 81 = .ok (.aload_n 0, 1) := by decide +kernel
theorem dX7_gatherMany_82 : decode cX7_gatherMany 82 = .ok (.getfield 18, 3) := by decide +kernel
theorem dX7_gatherMany_85 : decode cX7_gatherMany 85 = .ok (.aload_n 0, 1) := by decide +kernel
theorem dX7_gatherMany_86 : decode cX7_gatherMany 86 = .ok (.getfield 262, 3) := by decide +kernel
theorem dX7_gatherMany_89 : decode cX7_gatherMany 89 = .ok (.iconst 1, 1) := by decide +kernel
theorem dX7_gatherMany_90 : decode cX7_gatherMany 90 = .ok (.iadd, 1) := by decide +kernel
theorem dX7_gatherMany_91 : decode cX7_gatherMany 91 = .ok (.iconst 4, 1) := by decide +kernel
theorem dX7_gatherMany_92 : decode cX7_gatherMany 92 = .ok (.invokevirtual 198, 3) := by decide +kernel
theorem dX7_gatherMany_95 : decode cX7_gatherMany 95 = .ok (.ifCond .ne 5, 3) := by decide +kernel
theorem dX7_gatherMany_98 : decode cX7_gatherMany 98 = .ok (.iconst (-1), 1) := by decide +kernel
theorem dX7_gatherMany_99 : decode cX7_gatherMany 99 = .ok (.ireturn, 1) := by decide +kernel
theorem dX7_gatherMany_100 : decode cX7_gatherMany 100 = .ok (.aload_n 0, 1) := by decide +kernel
theorem dX7_gatherMany_101 : decode cX7_gatherMany 101 = .ok (.getfield 18, 3) := by decide +kernel
theorem dX7_gatherMany_104 : decode cX7_gatherMany 104 = .ok (.aload_n 0, 1) := by decide +kernel
theorem dX7_gatherMany_105 : decode cX7_gatherMany 105 = .ok (.getfield 262, 3) := by decide +kernel
theorem dX7_gatherMany_108 : decode cX7_gatherMany 108 = .ok (.iconst 1, 1) := by decide +kernel
theorem dX7_gatherMany_109 : decode cX7_gatherMany 109 = .ok (.iadd, 1) := by decide +kernel
theorem dX7_gatherMany_110 : decode cX7_gatherMany 110 = .ok (.invokevirtual 201, 3) := by decide +kernel
theorem dX7_gatherMany_113 : decode cX7_gatherMany 113 = .ok (.lstore_n 3, 1) := by decide +kernel
theorem dX7_gatherMany_114 : decode cX7_gatherMany 114 = .ok (.lload_n 3, 1) := by decide +kernel
theorem dX7_gatherMany_115 : decode cX7_gatherMany 115 = .ok (.lconst 0, 1) := by decide +kernel
theorem dX7_gatherMany_116 : decode cX7_gatherMany 116 = .ok (.lcmp, 1) := by decide +kernel
theorem dX7_gatherMany_117 : decode cX7_gatherMany 117 = .ok (.ifCond .lt 9, 3) := by decide +kernel
theorem dX7_gatherMany_120 : decode cX7_gatherMany 120 = .ok (.lload_n 3, 1) := by decide +kernel
theorem dX7_gatherMany_121 : decode cX7_gatherMany 121 = .ok (.lload_n 1, 1) := by decide +kernel
theorem dX7_gatherMany_122 : decode cX7_gatherMany 122 = .ok (.lcmp, 1) := by decide +kernel
theorem dX7_gatherMany_123 : decode cX7_gatherMany 123 = .ok (.ifCond .le 5, 3) := by decide +kernel
theorem dX7_gatherMany_126 : decode cX7_gatherMany 126 = .ok (.iconst (-1), 1) := by decide +kernel
theorem dX7_gatherMany_127 : decode cX7_gatherMany 127 = .ok (.ireturn, 1) := by decide +kernel
theorem dX7_gatherMany_128 : decode cX7_gatherMany 128 = .ok (.aload_n 0, 1) := by decide +kernel
theorem dX7_gatherMany_129 : decode cX7_gatherMany 129 = .ok (.lload_n 3, 1) := by decide +kernel
theorem dX7_gatherMany_130 : decode cX7_gatherMany 130 = .ok (.l2i, 1) := by decide +kernel
theorem dX7_gatherMany_131 : decode cX7_gatherMany 131 = .ok (.putfield 255, 3) := by decide +kernel
theorem dX7_gatherMany_134 : decode cX7_gatherMany 134 = .ok (.aload_n 0, 1) := by decide +kernel
theorem dX7_gatherMany_135 : decode cX7_gatherMany 135 = .ok (.aload_n 0, 1) := by decide +kernel
theorem dX7_gatherMany_136 : decode cX7_gatherMany 136 = .ok (.getfield 265, 3) := by decide +kernel
theorem dX7_gatherMany_139 : decode cX7_gatherMany 139 = .ok (.aload_n 0, 1) := by decide +kernel
theorem dX7_gatherMany_140 : decode cX7_gatherMany 140 = .ok (.getfield 262, 3) := by decide +kernel
theorem dX7_gatherMany_143 : decode cX7_gatherMany 143 = .ok (.isub, 1) := by decide +kernel
theorem dX7_gatherMany_144 : decode cX7_gatherMany 144 = .ok (.iconst 1, 1) := by decide +kernel
theorem dX7_gatherMany_145 : decode cX7_gatherMany 145 = .ok (.isub, 1) := by decide +kernel
theorem dX7_gatherMany_146 : decode cX7_gatherMany 146 = .ok (.putfield 268, 3) := by decide +kernel
theorem dX7_gatherMany_149 : decode cX7_gatherMany 149 = .ok (.aload_n 0, 1) := by decide +kernel
theorem dX7_gatherMany_150 : decode cX7_gatherMany 150 = .ok (.getfield 262, 3) := by decide +kernel
theorem dX7_gatherMany_153 : decode cX7_gatherMany 153 = .ok (.aload_n 0, 1) := by decide +kernel
theorem dX7_gatherMany_154 : decode cX7_gatherMany 154 = .ok (.getfield 255, 3) := by decide +kernel
theorem dX7_gatherMany_157 : decode cX7_gatherMany 157 = .ok (.iadd, 1) := by decide +kernel
theorem dX7_gatherMany_158 : decode cX7_gatherMany 158 = .ok (.iconst 3, 1) := by decide +kernel
theorem dX7_gatherMany_159 : decode cX7_gatherMany 159 = .ok (.iadd, 1) := by decide +kernel
theorem dX7_gatherMany_160 : decode cX7_gatherMany 160 = .ok (.istore 5, 2) := by decide +kernel
theorem dX7_gatherMany_162 : decode cX7_gatherMany 162 = .ok (.aload_n 0, 1) := by decide +kernel
theorem dX7_gatherMany_163 : decode cX7_gatherMany 163 = .ok (.getfield 18, 3) := by decide +kernel
theorem dX7_gatherMany_166 : decode cX7_gatherMany 166 = .ok (.getfield 85, 3) := by decide +kernel
theorem dX7_gatherMany_169 : decode cX7_gatherMany 169 = .ok (.iload 5, 2) := by decide +kernel
theorem dX7_gatherMany_171 : decode cX7_gatherMany 171 = .ok (.if_icmp .ge 7, 3) := by decide +kernel
theorem dX7_gatherMany_174 : decode cX7_gatherMany 174 = .ok (.iconst (-1), 1) := by decide +kernel
theorem dX7_gatherMany_175 : decode cX7_gatherMany 175 = .ok (.goto 5, 3) := by decide +kernel
theorem dX7_gatherMany_178 : decode cX7_gatherMany 178 = .ok (.iload 5, 2) := by decide +kernel
theorem dX7_gatherMany_180 : decode cX7_gatherMany 180 = .ok (.ireturn, 1) := by decide +kernel
abbrev mX7_pushesSignature : ks_M := (RX7, cX7_pushesSignature, 10, (some .boolean), "pushesSignature")
theorem dX7_pushesSignature_0 : decode cX7_pushesSignature 0 = .ok (.iconst 0, 1) := by decide +kernel
theorem dX7_pushesSignature_1 : decode cX7_pushesSignature 1 = .ok (.istore 5, 2) := by decide +kernel
theorem dX7_pushesSignature_3 : decode cX7_pushesSignature 3 = .ok (.iload 5, 2) := by decide +kernel
theorem dX7_pushesSignature_5 : decode cX7_pushesSignature 5 = .ok (.iload 4, 2) := by decide +kernel
theorem dX7_pushesSignature_7 : decode cX7_pushesSignature 7 = .ok (.if_icmp .ge 155, 3) := by decide +kernel
theorem dX7_pushesSignature_10 : decode cX7_pushesSignature 10 = .ok (.aload_n 0, 1) := by decide +kernel
theorem dX7_pushesSignature_11 : decode cX7_pushesSignature 11 = .ok (.getfield 18, 3) := by decide +kernel
theorem dX7_pushesSignature_14 : decode cX7_pushesSignature 14 = .ok (.getfield 94, 3) := by decide +kernel
theorem dX7_pushesSignature_17 : decode cX7_pushesSignature 17 = .ok (.aload_n 0, 1) := by decide +kernel
theorem dX7_pushesSignature_18 : decode cX7_pushesSignature 18 = .ok (.getfield 268, 3) := by decide +kernel
theorem dX7_pushesSignature_21 : decode cX7_pushesSignature 21 = .ok (.iload 5, 2) := by decide +kernel
theorem dX7_pushesSignature_23 : decode cX7_pushesSignature 23 = .ok (.isub, 1) := by decide +kernel
theorem dX7_pushesSignature_24 : decode cX7_pushesSignature 24 = .ok (.iaload, 1) := by decide +kernel
theorem dX7_pushesSignature_25 : decode cX7_pushesSignature 25 = .ok (.istore 6, 2) := by decide +kernel
theorem dX7_pushesSignature_27 : decode cX7_pushesSignature 27 = .ok (.iload 6, 2) := by decide +kernel
theorem dX7_pushesSignature_29 : decode cX7_pushesSignature 29 = .ok (.bipush 76, 2) := by decide +kernel
theorem dX7_pushesSignature_31 : decode cX7_pushesSignature 31 = .ok (.if_icmp .ge 7, 3) := by decide +kernel
theorem dX7_pushesSignature_34 : decode cX7_pushesSignature 34 = .ok (.iconst 1, 1) := by decide +kernel
theorem dX7_pushesSignature_35 : decode cX7_pushesSignature 35 = .ok (.goto 4, 3) := by decide +kernel
theorem dX7_pushesSignature_38 : decode cX7_pushesSignature 38 = .ok (.iconst 2, 1) := by decide +kernel
theorem dX7_pushesSignature_39 : decode cX7_pushesSignature 39 = .ok (.istore 7, 2) := by decide +kernel
theorem dX7_pushesSignature_41 : decode cX7_pushesSignature 41 = .ok (.aload_n 1, 1) := by decide +kernel
theorem dX7_pushesSignature_42 : decode cX7_pushesSignature 42 = .ok (.iload_n 2, 1) := by decide +kernel
theorem dX7_pushesSignature_43 : decode cX7_pushesSignature 43 = .ok (.baload, 1) := by decide +kernel
theorem dX7_pushesSignature_44 : decode cX7_pushesSignature 44 = .ok (.sipush 255, 3) := by decide +kernel
theorem dX7_pushesSignature_47 : decode cX7_pushesSignature 47 = .ok (.iand, 1) := by decide +kernel
theorem dX7_pushesSignature_48 : decode cX7_pushesSignature 48 = .ok (.iload 6, 2) := by decide +kernel
theorem dX7_pushesSignature_50 : decode cX7_pushesSignature 50 = .ok (.bipush 76, 2) := by decide +kernel
theorem dX7_pushesSignature_52 : decode cX7_pushesSignature 52 = .ok (.if_icmp .ge 8, 3) := by decide +kernel
theorem dX7_pushesSignature_55 : decode cX7_pushesSignature 55 = .ok (.iload 6, 2) := by decide +kernel
theorem dX7_pushesSignature_57 : decode cX7_pushesSignature 57 = .ok (.goto 5, 3) := by decide +kernel
theorem dX7_pushesSignature_60 : decode cX7_pushesSignature 60 = .ok (.bipush 76, 2) := by decide +kernel
theorem dX7_pushesSignature_62 : decode cX7_pushesSignature 62 = .ok (.if_icmp .ne 18, 3) := by decide +kernel
theorem dX7_pushesSignature_65 : decode cX7_pushesSignature 65 = .ok (.iload_n 3, 1) := by decide +kernel
theorem dX7_pushesSignature_66 : decode cX7_pushesSignature 66 = .ok (.iload_n 2, 1) := by decide +kernel
theorem dX7_pushesSignature_67 : decode cX7_pushesSignature 67 = .ok (.isub, 1) := by decide +kernel
theorem dX7_pushesSignature_68 : decode cX7_pushesSignature 68 = .ok (.iload 7, 2) := by decide +kernel
theorem dX7_pushesSignature_70 : decode cX7_pushesSignature 70 = .ok (.isub, 1) := by decide +kernel
theorem dX7_pushesSignature_71 : decode cX7_pushesSignature 71 = .ok (.iload 6, 2) := by decide +kernel
theorem dX7_pushesSignature_73 : decode cX7_pushesSignature 73 = .ok (.if_icmp .ne 7, 3) := by decide +kernel
theorem dX7_pushesSignature_76 : decode cX7_pushesSignature 76 = .ok (.iconst 1, 1) := by decide +kernel
theorem dX7_pushesSignature_77 : decode cX7_pushesSignature 77 = .ok (.goto 4, 3) := by decide +kernel
theorem dX7_pushesSignature_80 : decode cX7_pushesSignature 80 = .ok (.iconst 0, 1) := by decide +kernel
theorem dX7_pushesSignature_81 : decode cX7_pushesSignature 81 = .ok (.istore 8, 2) := by decide +kernel
theorem dX7_pushesSignature_83 : decode cX7_pushesSignature 83 = .ok (.iconst 0, 1) := by decide +kernel
theorem dX7_pushesSignature_84 : decode cX7_pushesSignature 84 = .ok (.istore 9, 2) := by decide +kernel
theorem dX7_pushesSignature_86 : decode cX7_pushesSignature 86 = .ok (.iload 9, 2) := by decide +kernel
theorem dX7_pushesSignature_88 : decode cX7_pushesSignature 88 = .ok (.iload 6, 2) := by decide +kernel
theorem dX7_pushesSignature_90 : decode cX7_pushesSignature 90 = .ok (.if_icmp .ge 59, 3) := by decide +kernel
theorem dX7_pushesSignature_93 : decode cX7_pushesSignature 93 = .ok (.iload 8, 2) := by decide +kernel
theorem dX7_pushesSignature_95 : decode cX7_pushesSignature 95 = .ok (.ifCond .eq 54, 3) := by decide +kernel
theorem dX7_pushesSignature_98 : decode cX7_pushesSignature 98 = .ok (.aload_n 1, 1) := by decide +kernel
theorem dX7_pushesSignature_99 : decode cX7_pushesSignature 99 = .ok (.iload_n 2, 1) := by decide +kernel
theorem dX7_pushesSignature_100 : decode cX7_pushesSignature 100 = .ok (.iload 7, 2) := by decide +kernel
theorem dX7_pushesSignature_102 : decode cX7_pushesSignature 102 = .ok (.iadd, 1) := by decide +kernel
theorem dX7_pushesSignature_103 : decode cX7_pushesSignature 103 = .ok (.iload 9, 2) := by decide +kernel
theorem dX7_pushesSignature_105 : decode cX7_pushesSignature 105 = .ok (.iadd, 1) := by decide +kernel
theorem dX7_pushesSignature_106 : decode cX7_pushesSignature 106 = .ok (.baload, 1) := by decide +kernel
theorem dX7_pushesSignature_107 : decode cX7_pushesSignature 107 = .ok (.aload_n 0, 1) := by decide +kernel
theorem dX7_pushesSignature_108 : decode cX7_pushesSignature 108 = .ok (.getfield 18, 3) := by decide +kernel
theorem dX7_pushesSignature_111 : decode cX7_pushesSignature 111 = .ok (.getfield 105, 3) := by decide +kernel
theorem dX7_pushesSignature_114 : decode cX7_pushesSignature 114 = .ok (.aload_n 0, 1) := by decide +kernel
theorem dX7_pushesSignature_115 : decode cX7_pushesSignature 115 = .ok (.getfield 18, 3) := by decide +kernel
theorem dX7_pushesSignature_118 : decode cX7_pushesSignature 118 = .ok (.getfield 91, 3) := by decide +kernel
theorem dX7_pushesSignature_121 : decode cX7_pushesSignature 121 = .ok (.aload_n 0, 1) := by decide +kernel
theorem dX7_pushesSignature_122 : decode cX7_pushesSignature 122 = .ok (.getfield 268, 3) := by decide +kernel
theorem dX7_pushesSignature_125 : decode cX7_pushesSignature 125 = .ok (.iload 5, 2) := by decide +kernel
theorem dX7_pushesSignature_127 : decode cX7_pushesSignature 127 = .ok (.isub, 1) := by decide +kernel
theorem dX7_pushesSignature_128 : decode cX7_pushesSignature 128 = .ok (.iaload, 1) := by decide +kernel
theorem dX7_pushesSignature_129 : decode cX7_pushesSignature 129 = .ok (.iload 9, 2) := by decide +kernel
theorem dX7_pushesSignature_131 : decode cX7_pushesSignature 131 = .ok (.iadd, 1) := by decide +kernel
theorem dX7_pushesSignature_132 : decode cX7_pushesSignature 132 = .ok (.baload, 1) := by decide +kernel
theorem dX7_pushesSignature_133 : decode cX7_pushesSignature 133 = .ok (.if_icmp .ne 7, 3) := by decide +kernel
theorem dX7_pushesSignature_136 : decode cX7_pushesSignature 136 = .ok (.iconst 1, 1) := by decide +kernel
theorem dX7_pushesSignature_137 : decode cX7_pushesSignature 137 = .ok (.goto 4, 3) := by decide +kernel
theorem dX7_pushesSignature_140 : decode cX7_pushesSignature 140 = .ok (.iconst 0, 1) := by decide +kernel
theorem dX7_pushesSignature_141 : decode cX7_pushesSignature 141 = .ok (.istore 8, 2) := by decide +kernel
theorem dX7_pushesSignature_143 : decode cX7_pushesSignature 143 = .ok (.iinc 9 1, 3) := by decide +kernel
theorem dX7_pushesSignature_146 : decode cX7_pushesSignature 146 = .ok (.goto (-60), 3) := by decide +kernel
theorem dX7_pushesSignature_149 : decode cX7_pushesSignature 149 = .ok (.iload 8, 2) := by decide +kernel
theorem dX7_pushesSignature_151 : decode cX7_pushesSignature 151 = .ok (.ifCond .eq 5, 3) := by decide +kernel
theorem dX7_pushesSignature_154 : decode cX7_pushesSignature 154 = .ok (.iconst 1, 1) := by decide +kernel
theorem dX7_pushesSignature_155 : decode cX7_pushesSignature 155 = .ok (.ireturn, 1) := by decide +kernel
theorem dX7_pushesSignature_156 : decode cX7_pushesSignature 156 = .ok (.iinc 5 1, 3) := by decide +kernel
theorem dX7_pushesSignature_159 : decode cX7_pushesSignature 159 = .ok (.goto (-156), 3) := by decide +kernel
theorem dX7_pushesSignature_162 : decode cX7_pushesSignature 162 = .ok (.iconst 0, 1) := by decide +kernel
theorem dX7_pushesSignature_163 : decode cX7_pushesSignature 163 = .ok (.ireturn, 1) := by decide +kernel
theorem kx_4 : (Jvm.Cond.initialized "CoinJudge$Curve") ∈ lw_tbl := List.mem_append_right _ (List.mem_of_getElem? (i := 4) (by decide +kernel))
theorem kx_46 : (Jvm.Cond.instantiable "CoinJudge$Buffer" (3 : Nat)) ∈ lw_tbl := List.mem_append_right _ (List.mem_of_getElem? (i := 46) (by decide +kernel))
theorem kx_48 : (Jvm.Cond.instanceMethod ({ cls := "CoinJudge$Buffer", name := "<init>", desc := "(I)V" } : Jvm.MethodName)) ∈ lw_tbl := List.mem_append_right _ (List.mem_of_getElem? (i := 48) (by decide +kernel))
theorem kx_56 : (Jvm.Cond.fieldLink "CoinJudge$Machine" (121 : Nat) "CoinJudge$Buffer" "bytes" "[B") ∈ lw_tbl := List.mem_append_right _ (List.mem_of_getElem? (i := 56) (by decide +kernel))
theorem kx_63 : (Jvm.Cond.fieldLink "CoinJudge$Machine" (122 : Nat) "CoinJudge$Buffer" "length" "I") ∈ lw_tbl := List.mem_append_right _ (List.mem_of_getElem? (i := 63) (by decide +kernel))
theorem kx_495 : (Jvm.Cond.instanceMethod ({ cls := "CoinJudge$Curve", name := "fillMultiples", desc := "(I)V" } : Jvm.MethodName)) ∈ lw_tbl := List.mem_append_right _ (List.mem_of_getElem? (i := 495) (by decide +kernel))
theorem kx_496 : (Jvm.Cond.selects "CoinJudge$Curve" ({ cls := "CoinJudge$Curve", name := "fillMultiples", desc := "(I)V" } : Jvm.MethodName) ({ cls := "CoinJudge$Curve", name := "fillMultiples", desc := "(I)V" } : Jvm.MethodName)) ∈ lw_tbl := List.mem_append_right _ (List.mem_of_getElem? (i := 496) (by decide +kernel))
theorem kx_497 : (Jvm.Cond.code ({ cls := "CoinJudge$Curve", name := "fillMultiples", desc := "(I)V" } : Jvm.MethodName) prog_5_method_7_code (3 : Nat) (Option.none : Option Jvm.ClassFile.FieldType)) ∈ lw_tbl := List.mem_append_right _ (List.mem_of_getElem? (i := 497) (by decide +kernel))
theorem kx_555 : (Jvm.Cond.fieldLink "CoinJudge$Machine" (78 : Nat) "CoinJudge$TxView" "bytes" "[B") ∈ lw_tbl := List.mem_append_right _ (List.mem_of_getElem? (i := 555) (by decide +kernel))
theorem kx_564 : (Jvm.Cond.fieldLink "CoinJudge$Machine" (69 : Nat) "CoinJudge$TxView" "inputScript" "[I") ∈ lw_tbl := List.mem_append_right _ (List.mem_of_getElem? (i := 564) (by decide +kernel))
theorem kx_566 : (Jvm.Cond.fieldLink "CoinJudge$Machine" (75 : Nat) "CoinJudge$TxView" "inputSize" "[I") ∈ lw_tbl := List.mem_append_right _ (List.mem_of_getElem? (i := 566) (by decide +kernel))
theorem kx_600 : (Jvm.Cond.code ({ cls := "CoinJudge$Machine", name := "<init>", desc := "(LCoinJudge$Hasher;LCoinJudge$Curve;)V" } : Jvm.MethodName) prog_9_method_1_code (3 : Nat) (Option.none : Option Jvm.ClassFile.FieldType)) ∈ lw_tbl := List.mem_append_right _ (List.mem_of_getElem? (i := 600) (by decide +kernel))
theorem kx_601 : (Jvm.Cond.methodLink "CoinJudge$Machine" (3 : Nat) ({ cls := "java/lang/Object", name := "<init>", desc := "()V" } : Jvm.MethodName)) ∈ lw_tbl := List.mem_append_right _ (List.mem_of_getElem? (i := 601) (by decide +kernel))
theorem kx_602 : (Jvm.Cond.classLink "CoinJudge$Machine" (15 : Nat) "CoinJudge$Stack") ∈ lw_tbl := List.mem_append_right _ (List.mem_of_getElem? (i := 602) (by decide +kernel))
theorem kx_603 : (Jvm.Cond.instantiable "CoinJudge$Stack" (9 : Nat)) ∈ lw_tbl := List.mem_append_right _ (List.mem_of_getElem? (i := 603) (by decide +kernel))
theorem kx_604 : (Jvm.Cond.methodLinkNest "CoinJudge$Machine" (17 : Nat) ({ cls := "CoinJudge$Stack", name := "<init>", desc := "()V" } : Jvm.MethodName) "CoinJudge") ∈ lw_tbl := List.mem_append_right _ (List.mem_of_getElem? (i := 604) (by decide +kernel))
theorem kx_605 : (Jvm.Cond.instanceMethod ({ cls := "CoinJudge$Stack", name := "<init>", desc := "()V" } : Jvm.MethodName)) ∈ lw_tbl := List.mem_append_right _ (List.mem_of_getElem? (i := 605) (by decide +kernel))
theorem kx_609 : (Jvm.Cond.fieldLink "CoinJudge$Machine" (105 : Nat) "CoinJudge$Stack" "arena" "[B") ∈ lw_tbl := List.mem_append_right _ (List.mem_of_getElem? (i := 609) (by decide +kernel))
theorem kx_611 : (Jvm.Cond.fieldLink "CoinJudge$Machine" (91 : Nat) "CoinJudge$Stack" "at" "[I") ∈ lw_tbl := List.mem_append_right _ (List.mem_of_getElem? (i := 611) (by decide +kernel))
theorem kx_613 : (Jvm.Cond.fieldLink "CoinJudge$Machine" (94 : Nat) "CoinJudge$Stack" "count" "[I") ∈ lw_tbl := List.mem_append_right _ (List.mem_of_getElem? (i := 613) (by decide +kernel))
theorem kx_615 : (Jvm.Cond.fieldLink "CoinJudge$Machine" (85 : Nat) "CoinJudge$Stack" "size" "I") ∈ lw_tbl := List.mem_append_right _ (List.mem_of_getElem? (i := 615) (by decide +kernel))
theorem kx_640 : (Jvm.Cond.classLink "CoinJudge$Machine" (26 : Nat) "CoinJudge$Buffer") ∈ lw_tbl := List.mem_append_right _ (List.mem_of_getElem? (i := 640) (by decide +kernel))
theorem kx_641 : (Jvm.Cond.methodLink "CoinJudge$Machine" (28 : Nat) ({ cls := "CoinJudge$Buffer", name := "<init>", desc := "(I)V" } : Jvm.MethodName)) ∈ lw_tbl := List.mem_append_right _ (List.mem_of_getElem? (i := 641) (by decide +kernel))
theorem kx_642 : (Jvm.Cond.fieldLink "CoinJudge$Machine" (9 : Nat) "CoinJudge$Machine" "signed" "[B") ∈ lw_tbl := List.mem_append_right _ (List.mem_of_getElem? (i := 642) (by decide +kernel))
theorem kx_644 : (Jvm.Cond.fieldLink "CoinJudge$Machine" (38 : Nat) "CoinJudge$Machine" "hasher" "LCoinJudge$Hasher;") ∈ lw_tbl := List.mem_append_right _ (List.mem_of_getElem? (i := 644) (by decide +kernel))
theorem kx_645 : (Jvm.Cond.fieldLink "CoinJudge$Machine" (42 : Nat) "CoinJudge$Machine" "curve" "LCoinJudge$Curve;") ∈ lw_tbl := List.mem_append_right _ (List.mem_of_getElem? (i := 645) (by decide +kernel))
theorem kx_646 : (Jvm.Cond.fieldLink "CoinJudge$Machine" (18 : Nat) "CoinJudge$Machine" "stack" "LCoinJudge$Stack;") ∈ lw_tbl := List.mem_append_right _ (List.mem_of_getElem? (i := 646) (by decide +kernel))
theorem kx_647 : (Jvm.Cond.fieldLink "CoinJudge$Machine" (22 : Nat) "CoinJudge$Machine" "done" "[Z") ∈ lw_tbl := List.mem_append_right _ (List.mem_of_getElem? (i := 647) (by decide +kernel))
theorem kx_648 : (Jvm.Cond.fieldLink "CoinJudge$Machine" (31 : Nat) "CoinJudge$Machine" "clean" "LCoinJudge$Buffer;") ∈ lw_tbl := List.mem_append_right _ (List.mem_of_getElem? (i := 648) (by decide +kernel))
theorem kx_649 : (Jvm.Cond.fieldLink "CoinJudge$Machine" (35 : Nat) "CoinJudge$Machine" "image" "LCoinJudge$Buffer;") ∈ lw_tbl := List.mem_append_right _ (List.mem_of_getElem? (i := 649) (by decide +kernel))
theorem kx_650 : (Jvm.Cond.fieldLink "CoinJudge$Machine" (58 : Nat) "CoinJudge$Machine" "view" "LCoinJudge$TxView;") ∈ lw_tbl := List.mem_append_right _ (List.mem_of_getElem? (i := 650) (by decide +kernel))
theorem kx_651 : (Jvm.Cond.fieldLink "CoinJudge$Machine" (62 : Nat) "CoinJudge$Machine" "input" "I") ∈ lw_tbl := List.mem_append_right _ (List.mem_of_getElem? (i := 651) (by decide +kernel))
theorem kx_652 : (Jvm.Cond.fieldLink "CoinJudge$Machine" (137 : Nat) "CoinJudge$Machine" "code" "[B") ∈ lw_tbl := List.mem_append_right _ (List.mem_of_getElem? (i := 652) (by decide +kernel))
theorem kx_653 : (Jvm.Cond.fieldLink "CoinJudge$Machine" (140 : Nat) "CoinJudge$Machine" "at" "I") ∈ lw_tbl := List.mem_append_right _ (List.mem_of_getElem? (i := 653) (by decide +kernel))
theorem kx_654 : (Jvm.Cond.fieldLink "CoinJudge$Machine" (142 : Nat) "CoinJudge$Machine" "stop" "I") ∈ lw_tbl := List.mem_append_right _ (List.mem_of_getElem? (i := 654) (by decide +kernel))
theorem kx_655 : (Jvm.Cond.fieldLink "CoinJudge$Machine" (145 : Nat) "CoinJudge$Machine" "begin" "I") ∈ lw_tbl := List.mem_append_right _ (List.mem_of_getElem? (i := 655) (by decide +kernel))
theorem kx_656 : (Jvm.Cond.fieldLink "CoinJudge$Machine" (148 : Nat) "CoinJudge$Machine" "operations" "I") ∈ lw_tbl := List.mem_append_right _ (List.mem_of_getElem? (i := 656) (by decide +kernel))
theorem kx_657 : (Jvm.Cond.fieldLink "CoinJudge$Machine" (151 : Nat) "CoinJudge$Machine" "open" "I") ∈ lw_tbl := List.mem_append_right _ (List.mem_of_getElem? (i := 657) (by decide +kernel))
theorem kx_658 : (Jvm.Cond.fieldLink "CoinJudge$Machine" (154 : Nat) "CoinJudge$Machine" "closed" "I") ∈ lw_tbl := List.mem_append_right _ (List.mem_of_getElem? (i := 658) (by decide +kernel))
theorem kx_659 : (Jvm.Cond.fieldLink "CoinJudge$Machine" (265 : Nat) "CoinJudge$Machine" "keyTop" "I") ∈ lw_tbl := List.mem_append_right _ (List.mem_of_getElem? (i := 659) (by decide +kernel))
theorem kx_660 : (Jvm.Cond.fieldLink "CoinJudge$Machine" (262 : Nat) "CoinJudge$Machine" "keyCount" "I") ∈ lw_tbl := List.mem_append_right _ (List.mem_of_getElem? (i := 660) (by decide +kernel))
theorem kx_661 : (Jvm.Cond.fieldLink "CoinJudge$Machine" (268 : Nat) "CoinJudge$Machine" "signatureTop" "I") ∈ lw_tbl := List.mem_append_right _ (List.mem_of_getElem? (i := 661) (by decide +kernel))
theorem kx_662 : (Jvm.Cond.fieldLink "CoinJudge$Machine" (255 : Nat) "CoinJudge$Machine" "signatureCount" "I") ∈ lw_tbl := List.mem_append_right _ (List.mem_of_getElem? (i := 662) (by decide +kernel))
theorem kx_704 : (Jvm.Cond.arrayClass Jvm.ClassFile.FieldType.boolean) ∈ lw_tbl := List.mem_append_right _ (List.mem_of_getElem? (i := 704) (by decide +kernel))
theorem kx_1183 : (Jvm.Cond.instanceMethod ({ cls := "CoinJudge$Curve", name := "sum", desc := "(Z)V" } : Jvm.MethodName)) ∈ lw_tbl := List.mem_append_right _ (List.mem_of_getElem? (i := 1183) (by decide +kernel))
theorem kx_1184 : (Jvm.Cond.selects "CoinJudge$Curve" ({ cls := "CoinJudge$Curve", name := "sum", desc := "(Z)V" } : Jvm.MethodName) ({ cls := "CoinJudge$Curve", name := "sum", desc := "(Z)V" } : Jvm.MethodName)) ∈ lw_tbl := List.mem_append_right _ (List.mem_of_getElem? (i := 1184) (by decide +kernel))
theorem kx_1185 : (Jvm.Cond.code ({ cls := "CoinJudge$Curve", name := "sum", desc := "(Z)V" } : Jvm.MethodName) prog_5_method_8_code (6 : Nat) (Option.none : Option Jvm.ClassFile.FieldType)) ∈ lw_tbl := List.mem_append_right _ (List.mem_of_getElem? (i := 1185) (by decide +kernel))
theorem kx_1327 : (Jvm.Cond.instanceMethod ({ cls := "CoinJudge$Machine", name := "cleanCode", desc := "([BIII)V" } : Jvm.MethodName)) ∈ lw_tbl := List.mem_append_right _ (List.mem_of_getElem? (i := 1327) (by decide +kernel))
theorem kx_1328 : (Jvm.Cond.selects "CoinJudge$Machine" ({ cls := "CoinJudge$Machine", name := "cleanCode", desc := "([BIII)V" } : Jvm.MethodName) ({ cls := "CoinJudge$Machine", name := "cleanCode", desc := "([BIII)V" } : Jvm.MethodName)) ∈ lw_tbl := List.mem_append_right _ (List.mem_of_getElem? (i := 1328) (by decide +kernel))
theorem kx_1329 : (Jvm.Cond.code ({ cls := "CoinJudge$Machine", name := "cleanCode", desc := "([BIII)V" } : Jvm.MethodName) prog_9_method_6_code (8 : Nat) (Option.none : Option Jvm.ClassFile.FieldType)) ∈ lw_tbl := List.mem_append_right _ (List.mem_of_getElem? (i := 1329) (by decide +kernel))
theorem kx_1330 : (Jvm.Cond.methodLink "CoinJudge$Machine" (108 : Nat) ({ cls := "CoinJudge$Buffer", name := "clear", desc := "()V" } : Jvm.MethodName)) ∈ lw_tbl := List.mem_append_right _ (List.mem_of_getElem? (i := 1330) (by decide +kernel))
theorem kx_1331 : (Jvm.Cond.methodLink "CoinJudge$Machine" (54 : Nat) ({ cls := "CoinJudge$Machine", name := "after", desc := "([BII)I" } : Jvm.MethodName)) ∈ lw_tbl := List.mem_append_right _ (List.mem_of_getElem? (i := 1331) (by decide +kernel))
theorem kx_1332 : (Jvm.Cond.static ({ cls := "CoinJudge$Machine", name := "after", desc := "([BII)I" } : Jvm.MethodName)) ∈ lw_tbl := List.mem_append_right _ (List.mem_of_getElem? (i := 1332) (by decide +kernel))
theorem kx_1333 : (Jvm.Cond.code ({ cls := "CoinJudge$Machine", name := "after", desc := "([BII)I" } : Jvm.MethodName) prog_9_method_3_code (7 : Nat) (Option.some Jvm.ClassFile.FieldType.int)) ∈ lw_tbl := List.mem_append_right _ (List.mem_of_getElem? (i := 1333) (by decide +kernel))
theorem kx_1334 : (Jvm.Cond.methodLink "CoinJudge$Machine" (46 : Nat) ({ cls := "CoinJudge$Machine", name := "headSize", desc := "(I)I" } : Jvm.MethodName)) ∈ lw_tbl := List.mem_append_right _ (List.mem_of_getElem? (i := 1334) (by decide +kernel))
theorem kx_1335 : (Jvm.Cond.static ({ cls := "CoinJudge$Machine", name := "headSize", desc := "(I)I" } : Jvm.MethodName)) ∈ lw_tbl := List.mem_append_right _ (List.mem_of_getElem? (i := 1335) (by decide +kernel))
theorem kx_1336 : (Jvm.Cond.code ({ cls := "CoinJudge$Machine", name := "headSize", desc := "(I)I" } : Jvm.MethodName) prog_9_method_2_code (1 : Nat) (Option.some Jvm.ClassFile.FieldType.int)) ∈ lw_tbl := List.mem_append_right _ (List.mem_of_getElem? (i := 1336) (by decide +kernel))
theorem kx_1337 : (Jvm.Cond.methodLink "CoinJudge$Machine" (50 : Nat) ({ cls := "CoinJudge$Buffer", name := "number", desc := "([BII)J" } : Jvm.MethodName)) ∈ lw_tbl := List.mem_append_right _ (List.mem_of_getElem? (i := 1337) (by decide +kernel))
theorem kx_1338 : (Jvm.Cond.methodLink "CoinJudge$Machine" (109 : Nat) ({ cls := "CoinJudge$Machine", name := "pushesSignature", desc := "([BIII)Z" } : Jvm.MethodName)) ∈ lw_tbl := List.mem_append_right _ (List.mem_of_getElem? (i := 1338) (by decide +kernel))
theorem kx_1340 : (Jvm.Cond.instanceMethod ({ cls := "CoinJudge$Machine", name := "pushesSignature", desc := "([BIII)Z" } : Jvm.MethodName)) ∈ lw_tbl := List.mem_append_right _ (List.mem_of_getElem? (i := 1340) (by decide +kernel))
theorem kx_1341 : (Jvm.Cond.code ({ cls := "CoinJudge$Machine", name := "pushesSignature", desc := "([BIII)Z" } : Jvm.MethodName) prog_9_method_25_code (10 : Nat) (Option.some Jvm.ClassFile.FieldType.boolean)) ∈ lw_tbl := List.mem_append_right _ (List.mem_of_getElem? (i := 1341) (by decide +kernel))
theorem kx_1342 : (Jvm.Cond.methodLink "CoinJudge$Machine" (113 : Nat) ({ cls := "CoinJudge$Buffer", name := "addBytes", desc := "([BII)V" } : Jvm.MethodName)) ∈ lw_tbl := List.mem_append_right _ (List.mem_of_getElem? (i := 1342) (by decide +kernel))
theorem kx_1344 : (Jvm.Cond.instanceMethod ({ cls := "CoinJudge$Machine", name := "nameSigned", desc := "(LCoinJudge$TxView;II)V" } : Jvm.MethodName)) ∈ lw_tbl := List.mem_append_right _ (List.mem_of_getElem? (i := 1344) (by decide +kernel))
theorem kx_1345 : (Jvm.Cond.selects "CoinJudge$Machine" ({ cls := "CoinJudge$Machine", name := "nameSigned", desc := "(LCoinJudge$TxView;II)V" } : Jvm.MethodName) ({ cls := "CoinJudge$Machine", name := "nameSigned", desc := "(LCoinJudge$TxView;II)V" } : Jvm.MethodName)) ∈ lw_tbl := List.mem_append_right _ (List.mem_of_getElem? (i := 1345) (by decide +kernel))
theorem kx_1346 : (Jvm.Cond.code ({ cls := "CoinJudge$Machine", name := "nameSigned", desc := "(LCoinJudge$TxView;II)V" } : Jvm.MethodName) prog_9_method_7_code (4 : Nat) (Option.none : Option Jvm.ClassFile.FieldType)) ∈ lw_tbl := List.mem_append_right _ (List.mem_of_getElem? (i := 1346) (by decide +kernel))
theorem kx_1347 : (Jvm.Cond.methodLink "CoinJudge$Machine" (117 : Nat) ({ cls := "CoinJudge$TxView", name := "writeSigned", desc := "(LCoinJudge$Buffer;IILCoinJudge$Buffer;)Z" } : Jvm.MethodName)) ∈ lw_tbl := List.mem_append_right _ (List.mem_of_getElem? (i := 1347) (by decide +kernel))
theorem kx_1348 : (Jvm.Cond.instanceMethod ({ cls := "CoinJudge$TxView", name := "writeSigned", desc := "(LCoinJudge$Buffer;IILCoinJudge$Buffer;)Z" } : Jvm.MethodName)) ∈ lw_tbl := List.mem_append_right _ (List.mem_of_getElem? (i := 1348) (by decide +kernel))
theorem kx_1349 : (Jvm.Cond.selects "CoinJudge$TxView" ({ cls := "CoinJudge$TxView", name := "writeSigned", desc := "(LCoinJudge$Buffer;IILCoinJudge$Buffer;)Z" } : Jvm.MethodName) ({ cls := "CoinJudge$TxView", name := "writeSigned", desc := "(LCoinJudge$Buffer;IILCoinJudge$Buffer;)Z" } : Jvm.MethodName)) ∈ lw_tbl := List.mem_append_right _ (List.mem_of_getElem? (i := 1349) (by decide +kernel))
theorem kx_1356 : (Jvm.Cond.methodLink "CoinJudge$Machine" (125 : Nat) ({ cls := "CoinJudge$Hasher", name := "sha", desc := "([BII[BI)V" } : Jvm.MethodName)) ∈ lw_tbl := List.mem_append_right _ (List.mem_of_getElem? (i := 1356) (by decide +kernel))
theorem kx_1357 : (Jvm.Cond.methodLink "CoinJudge$Machine" (131 : Nat) ({ cls := "java/util/Arrays", name := "fill", desc := "([BB)V" } : Jvm.MethodName)) ∈ lw_tbl := List.mem_append_right _ (List.mem_of_getElem? (i := 1357) (by decide +kernel))
theorem kx_1550 : (Jvm.Cond.code ({ cls := "CoinJudge$Machine", name := "unlocks", desc := "(LCoinJudge$TxView;I[BII)Z" } : Jvm.MethodName) prog_9_method_5_code (11 : Nat) (Option.some Jvm.ClassFile.FieldType.boolean)) ∈ lw_tbl := List.mem_append_right _ (List.mem_of_getElem? (i := 1550) (by decide +kernel))
theorem kx_1551 : (Jvm.Cond.methodLink "CoinJudge$Machine" (66 : Nat) ({ cls := "CoinJudge$Stack", name := "clear", desc := "()V" } : Jvm.MethodName)) ∈ lw_tbl := List.mem_append_right _ (List.mem_of_getElem? (i := 1551) (by decide +kernel))
theorem kx_1552 : (Jvm.Cond.instanceMethod ({ cls := "CoinJudge$Stack", name := "clear", desc := "()V" } : Jvm.MethodName)) ∈ lw_tbl := List.mem_append_right _ (List.mem_of_getElem? (i := 1552) (by decide +kernel))
theorem kx_1553 : (Jvm.Cond.selects "CoinJudge$Stack" ({ cls := "CoinJudge$Stack", name := "clear", desc := "()V" } : Jvm.MethodName) ({ cls := "CoinJudge$Stack", name := "clear", desc := "()V" } : Jvm.MethodName)) ∈ lw_tbl := List.mem_append_right _ (List.mem_of_getElem? (i := 1553) (by decide +kernel))
theorem kx_1555 : (Jvm.Cond.methodLink "CoinJudge$Machine" (81 : Nat) ({ cls := "CoinJudge$Machine", name := "run", desc := "([BII)Z" } : Jvm.MethodName)) ∈ lw_tbl := List.mem_append_right _ (List.mem_of_getElem? (i := 1555) (by decide +kernel))
theorem kx_1557 : (Jvm.Cond.instanceMethod ({ cls := "CoinJudge$Machine", name := "run", desc := "([BII)Z" } : Jvm.MethodName)) ∈ lw_tbl := List.mem_append_right _ (List.mem_of_getElem? (i := 1557) (by decide +kernel))
theorem kx_1558 : (Jvm.Cond.code ({ cls := "CoinJudge$Machine", name := "run", desc := "([BII)Z" } : Jvm.MethodName) prog_9_method_8_code (9 : Nat) (Option.some Jvm.ClassFile.FieldType.boolean)) ∈ lw_tbl := List.mem_append_right _ (List.mem_of_getElem? (i := 1558) (by decide +kernel))
theorem kx_1559 : (Jvm.Cond.methodLink "CoinJudge$Machine" (157 : Nat) ({ cls := "CoinJudge$Stack", name := "clearOther", desc := "()V" } : Jvm.MethodName)) ∈ lw_tbl := List.mem_append_right _ (List.mem_of_getElem? (i := 1559) (by decide +kernel))
theorem kx_1560 : (Jvm.Cond.instanceMethod ({ cls := "CoinJudge$Stack", name := "clearOther", desc := "()V" } : Jvm.MethodName)) ∈ lw_tbl := List.mem_append_right _ (List.mem_of_getElem? (i := 1560) (by decide +kernel))
theorem kx_1561 : (Jvm.Cond.selects "CoinJudge$Stack" ({ cls := "CoinJudge$Stack", name := "clearOther", desc := "()V" } : Jvm.MethodName) ({ cls := "CoinJudge$Stack", name := "clearOther", desc := "()V" } : Jvm.MethodName)) ∈ lw_tbl := List.mem_append_right _ (List.mem_of_getElem? (i := 1561) (by decide +kernel))
theorem kx_1563 : (Jvm.Cond.methodLink "CoinJudge$Machine" (160 : Nat) ({ cls := "CoinJudge$Machine", name := "isAllowed", desc := "(II)Z" } : Jvm.MethodName)) ∈ lw_tbl := List.mem_append_right _ (List.mem_of_getElem? (i := 1563) (by decide +kernel))
theorem kx_1565 : (Jvm.Cond.instanceMethod ({ cls := "CoinJudge$Machine", name := "isAllowed", desc := "(II)Z" } : Jvm.MethodName)) ∈ lw_tbl := List.mem_append_right _ (List.mem_of_getElem? (i := 1565) (by decide +kernel))
theorem kx_1566 : (Jvm.Cond.code ({ cls := "CoinJudge$Machine", name := "isAllowed", desc := "(II)Z" } : Jvm.MethodName) prog_9_method_9_code (4 : Nat) (Option.some Jvm.ClassFile.FieldType.boolean)) ∈ lw_tbl := List.mem_append_right _ (List.mem_of_getElem? (i := 1566) (by decide +kernel))
theorem kx_1567 : (Jvm.Cond.methodLink "CoinJudge$Machine" (164 : Nat) ({ cls := "CoinJudge$Machine", name := "branch", desc := "(I)Z" } : Jvm.MethodName)) ∈ lw_tbl := List.mem_append_right _ (List.mem_of_getElem? (i := 1567) (by decide +kernel))
theorem kx_1569 : (Jvm.Cond.instanceMethod ({ cls := "CoinJudge$Machine", name := "branch", desc := "(I)Z" } : Jvm.MethodName)) ∈ lw_tbl := List.mem_append_right _ (List.mem_of_getElem? (i := 1569) (by decide +kernel))
theorem kx_1570 : (Jvm.Cond.code ({ cls := "CoinJudge$Machine", name := "branch", desc := "(I)Z" } : Jvm.MethodName) prog_9_method_11_code (3 : Nat) (Option.some Jvm.ClassFile.FieldType.boolean)) ∈ lw_tbl := List.mem_append_right _ (List.mem_of_getElem? (i := 1570) (by decide +kernel))
theorem kx_1571 : (Jvm.Cond.methodLink "CoinJudge$Machine" (97 : Nat) ({ cls := "CoinJudge$Stack", name := "isTopTrue", desc := "()Z" } : Jvm.MethodName)) ∈ lw_tbl := List.mem_append_right _ (List.mem_of_getElem? (i := 1571) (by decide +kernel))
theorem kx_1572 : (Jvm.Cond.instanceMethod ({ cls := "CoinJudge$Stack", name := "isTopTrue", desc := "()Z" } : Jvm.MethodName)) ∈ lw_tbl := List.mem_append_right _ (List.mem_of_getElem? (i := 1572) (by decide +kernel))
theorem kx_1573 : (Jvm.Cond.selects "CoinJudge$Stack" ({ cls := "CoinJudge$Stack", name := "isTopTrue", desc := "()Z" } : Jvm.MethodName) ({ cls := "CoinJudge$Stack", name := "isTopTrue", desc := "()Z" } : Jvm.MethodName)) ∈ lw_tbl := List.mem_append_right _ (List.mem_of_getElem? (i := 1573) (by decide +kernel))
theorem kx_1575 : (Jvm.Cond.methodLink "CoinJudge$Machine" (101 : Nat) ({ cls := "CoinJudge$Stack", name := "drop", desc := "(I)Z" } : Jvm.MethodName)) ∈ lw_tbl := List.mem_append_right _ (List.mem_of_getElem? (i := 1575) (by decide +kernel))
theorem kx_1576 : (Jvm.Cond.instanceMethod ({ cls := "CoinJudge$Stack", name := "drop", desc := "(I)Z" } : Jvm.MethodName)) ∈ lw_tbl := List.mem_append_right _ (List.mem_of_getElem? (i := 1576) (by decide +kernel))
theorem kx_1577 : (Jvm.Cond.selects "CoinJudge$Stack" ({ cls := "CoinJudge$Stack", name := "drop", desc := "(I)Z" } : Jvm.MethodName) ({ cls := "CoinJudge$Stack", name := "drop", desc := "(I)Z" } : Jvm.MethodName)) ∈ lw_tbl := List.mem_append_right _ (List.mem_of_getElem? (i := 1577) (by decide +kernel))
theorem kx_1579 : (Jvm.Cond.methodLink "CoinJudge$Machine" (167 : Nat) ({ cls := "CoinJudge$Stack", name := "add", desc := "([BII)Z" } : Jvm.MethodName)) ∈ lw_tbl := List.mem_append_right _ (List.mem_of_getElem? (i := 1579) (by decide +kernel))
theorem kx_1584 : (Jvm.Cond.methodLink "CoinJudge$Machine" (170 : Nat) ({ cls := "CoinJudge$Machine", name := "ask", desc := "(I)Z" } : Jvm.MethodName)) ∈ lw_tbl := List.mem_append_right _ (List.mem_of_getElem? (i := 1584) (by decide +kernel))
theorem kx_1586 : (Jvm.Cond.instanceMethod ({ cls := "CoinJudge$Machine", name := "ask", desc := "(I)Z" } : Jvm.MethodName)) ∈ lw_tbl := List.mem_append_right _ (List.mem_of_getElem? (i := 1586) (by decide +kernel))
theorem kx_1587 : (Jvm.Cond.code ({ cls := "CoinJudge$Machine", name := "ask", desc := "(I)Z" } : Jvm.MethodName) prog_9_method_22_code (10 : Nat) (Option.some Jvm.ClassFile.FieldType.boolean)) ∈ lw_tbl := List.mem_append_right _ (List.mem_of_getElem? (i := 1587) (by decide +kernel))
theorem kx_1588 : (Jvm.Cond.methodLink "CoinJudge$Machine" (248 : Nat) ({ cls := "CoinJudge$Machine", name := "gatherOne", desc := "()I" } : Jvm.MethodName)) ∈ lw_tbl := List.mem_append_right _ (List.mem_of_getElem? (i := 1588) (by decide +kernel))
theorem kx_1590 : (Jvm.Cond.instanceMethod ({ cls := "CoinJudge$Machine", name := "gatherOne", desc := "()I" } : Jvm.MethodName)) ∈ lw_tbl := List.mem_append_right _ (List.mem_of_getElem? (i := 1590) (by decide +kernel))
theorem kx_1591 : (Jvm.Cond.code ({ cls := "CoinJudge$Machine", name := "gatherOne", desc := "()I" } : Jvm.MethodName) prog_9_method_23_code (1 : Nat) (Option.some Jvm.ClassFile.FieldType.int)) ∈ lw_tbl := List.mem_append_right _ (List.mem_of_getElem? (i := 1591) (by decide +kernel))
theorem kx_1592 : (Jvm.Cond.methodLink "CoinJudge$Machine" (252 : Nat) ({ cls := "CoinJudge$Machine", name := "gatherMany", desc := "()I" } : Jvm.MethodName)) ∈ lw_tbl := List.mem_append_right _ (List.mem_of_getElem? (i := 1592) (by decide +kernel))
theorem kx_1594 : (Jvm.Cond.instanceMethod ({ cls := "CoinJudge$Machine", name := "gatherMany", desc := "()I" } : Jvm.MethodName)) ∈ lw_tbl := List.mem_append_right _ (List.mem_of_getElem? (i := 1594) (by decide +kernel))
theorem kx_1595 : (Jvm.Cond.code ({ cls := "CoinJudge$Machine", name := "gatherMany", desc := "()I" } : Jvm.MethodName) prog_9_method_24_code (6 : Nat) (Option.some Jvm.ClassFile.FieldType.int)) ∈ lw_tbl := List.mem_append_right _ (List.mem_of_getElem? (i := 1595) (by decide +kernel))
theorem kx_1596 : (Jvm.Cond.methodLink "CoinJudge$Machine" (198 : Nat) ({ cls := "CoinJudge$Stack", name := "hasNumber", desc := "(II)Z" } : Jvm.MethodName)) ∈ lw_tbl := List.mem_append_right _ (List.mem_of_getElem? (i := 1596) (by decide +kernel))
theorem kx_1597 : (Jvm.Cond.instanceMethod ({ cls := "CoinJudge$Stack", name := "hasNumber", desc := "(II)Z" } : Jvm.MethodName)) ∈ lw_tbl := List.mem_append_right _ (List.mem_of_getElem? (i := 1597) (by decide +kernel))
theorem kx_1598 : (Jvm.Cond.selects "CoinJudge$Stack" ({ cls := "CoinJudge$Stack", name := "hasNumber", desc := "(II)Z" } : Jvm.MethodName) ({ cls := "CoinJudge$Stack", name := "hasNumber", desc := "(II)Z" } : Jvm.MethodName)) ∈ lw_tbl := List.mem_append_right _ (List.mem_of_getElem? (i := 1598) (by decide +kernel))
theorem kx_1600 : (Jvm.Cond.methodLink "CoinJudge$Machine" (201 : Nat) ({ cls := "CoinJudge$Stack", name := "number", desc := "(I)J" } : Jvm.MethodName)) ∈ lw_tbl := List.mem_append_right _ (List.mem_of_getElem? (i := 1600) (by decide +kernel))
theorem kx_1601 : (Jvm.Cond.instanceMethod ({ cls := "CoinJudge$Stack", name := "number", desc := "(I)J" } : Jvm.MethodName)) ∈ lw_tbl := List.mem_append_right _ (List.mem_of_getElem? (i := 1601) (by decide +kernel))
theorem kx_1602 : (Jvm.Cond.selects "CoinJudge$Stack" ({ cls := "CoinJudge$Stack", name := "number", desc := "(I)J" } : Jvm.MethodName) ({ cls := "CoinJudge$Stack", name := "number", desc := "(I)J" } : Jvm.MethodName)) ∈ lw_tbl := List.mem_append_right _ (List.mem_of_getElem? (i := 1602) (by decide +kernel))
theorem kx_1604 : (Jvm.Cond.constantLong "CoinJudge$Machine" (297 : Nat) (20 : Int64)) ∈ lw_tbl := List.mem_append_right _ (List.mem_of_getElem? (i := 1604) (by decide +kernel))
theorem kx_1605 : (Jvm.Cond.methodLink "CoinJudge$Machine" (258 : Nat) ({ cls := "CoinJudge$Machine", name := "cleanCode", desc := "([BIII)V" } : Jvm.MethodName)) ∈ lw_tbl := List.mem_append_right _ (List.mem_of_getElem? (i := 1605) (by decide +kernel))
theorem kx_1606 : (Jvm.Cond.methodLink "CoinJudge$Machine" (271 : Nat) ({ cls := "CoinJudge$Curve", name := "takeSignature", desc := "([BII)Z" } : Jvm.MethodName)) ∈ lw_tbl := List.mem_append_right _ (List.mem_of_getElem? (i := 1606) (by decide +kernel))
theorem kx_1607 : (Jvm.Cond.instanceMethod ({ cls := "CoinJudge$Curve", name := "takeSignature", desc := "([BII)Z" } : Jvm.MethodName)) ∈ lw_tbl := List.mem_append_right _ (List.mem_of_getElem? (i := 1607) (by decide +kernel))
theorem kx_1608 : (Jvm.Cond.selects "CoinJudge$Curve" ({ cls := "CoinJudge$Curve", name := "takeSignature", desc := "([BII)Z" } : Jvm.MethodName) ({ cls := "CoinJudge$Curve", name := "takeSignature", desc := "([BII)Z" } : Jvm.MethodName)) ∈ lw_tbl := List.mem_append_right _ (List.mem_of_getElem? (i := 1608) (by decide +kernel))
theorem kx_1609 : (Jvm.Cond.code ({ cls := "CoinJudge$Curve", name := "takeSignature", desc := "([BII)Z" } : Jvm.MethodName) prog_5_method_4_code (6 : Nat) (Option.some Jvm.ClassFile.FieldType.boolean)) ∈ lw_tbl := List.mem_append_right _ (List.mem_of_getElem? (i := 1609) (by decide +kernel))
theorem kx_1618 : (Jvm.Cond.methodLink "CoinJudge$Machine" (276 : Nat) ({ cls := "CoinJudge$Curve", name := "takeKey", desc := "([BII)Z" } : Jvm.MethodName)) ∈ lw_tbl := List.mem_append_right _ (List.mem_of_getElem? (i := 1618) (by decide +kernel))
theorem kx_1619 : (Jvm.Cond.instanceMethod ({ cls := "CoinJudge$Curve", name := "takeKey", desc := "([BII)Z" } : Jvm.MethodName)) ∈ lw_tbl := List.mem_append_right _ (List.mem_of_getElem? (i := 1619) (by decide +kernel))
theorem kx_1620 : (Jvm.Cond.selects "CoinJudge$Curve" ({ cls := "CoinJudge$Curve", name := "takeKey", desc := "([BII)Z" } : Jvm.MethodName) ({ cls := "CoinJudge$Curve", name := "takeKey", desc := "([BII)Z" } : Jvm.MethodName)) ∈ lw_tbl := List.mem_append_right _ (List.mem_of_getElem? (i := 1620) (by decide +kernel))
theorem kx_1621 : (Jvm.Cond.code ({ cls := "CoinJudge$Curve", name := "takeKey", desc := "([BII)Z" } : Jvm.MethodName) prog_5_method_5_code (5 : Nat) (Option.some Jvm.ClassFile.FieldType.boolean)) ∈ lw_tbl := List.mem_append_right _ (List.mem_of_getElem? (i := 1621) (by decide +kernel))
theorem kx_1632 : (Jvm.Cond.methodLink "CoinJudge$Machine" (279 : Nat) ({ cls := "CoinJudge$Machine", name := "nameSigned", desc := "(LCoinJudge$TxView;II)V" } : Jvm.MethodName)) ∈ lw_tbl := List.mem_append_right _ (List.mem_of_getElem? (i := 1632) (by decide +kernel))
theorem kx_1633 : (Jvm.Cond.methodLink "CoinJudge$Machine" (283 : Nat) ({ cls := "CoinJudge$Curve", name := "weigh", desc := "([B)Z" } : Jvm.MethodName)) ∈ lw_tbl := List.mem_append_right _ (List.mem_of_getElem? (i := 1633) (by decide +kernel))
theorem kx_1634 : (Jvm.Cond.instanceMethod ({ cls := "CoinJudge$Curve", name := "weigh", desc := "([B)Z" } : Jvm.MethodName)) ∈ lw_tbl := List.mem_append_right _ (List.mem_of_getElem? (i := 1634) (by decide +kernel))
theorem kx_1635 : (Jvm.Cond.selects "CoinJudge$Curve" ({ cls := "CoinJudge$Curve", name := "weigh", desc := "([B)Z" } : Jvm.MethodName) ({ cls := "CoinJudge$Curve", name := "weigh", desc := "([B)Z" } : Jvm.MethodName)) ∈ lw_tbl := List.mem_append_right _ (List.mem_of_getElem? (i := 1635) (by decide +kernel))
theorem kx_1636 : (Jvm.Cond.code ({ cls := "CoinJudge$Curve", name := "weigh", desc := "([B)Z" } : Jvm.MethodName) prog_5_method_6_code (2 : Nat) (Option.some Jvm.ClassFile.FieldType.boolean)) ∈ lw_tbl := List.mem_append_right _ (List.mem_of_getElem? (i := 1636) (by decide +kernel))
theorem kx_1637 : (Jvm.Cond.methodLink "CoinJudge$Machine" (287 : Nat) ({ cls := "CoinJudge$Curve", name := "fillMultiples", desc := "(I)V" } : Jvm.MethodName)) ∈ lw_tbl := List.mem_append_right _ (List.mem_of_getElem? (i := 1637) (by decide +kernel))
theorem kx_1638 : (Jvm.Cond.methodLink "CoinJudge$Machine" (290 : Nat) ({ cls := "CoinJudge$Curve", name := "sum", desc := "(Z)V" } : Jvm.MethodName)) ∈ lw_tbl := List.mem_append_right _ (List.mem_of_getElem? (i := 1638) (by decide +kernel))
theorem kx_1639 : (Jvm.Cond.methodLink "CoinJudge$Machine" (294 : Nat) ({ cls := "CoinJudge$Curve", name := "sumHasR", desc := "()Z" } : Jvm.MethodName)) ∈ lw_tbl := List.mem_append_right _ (List.mem_of_getElem? (i := 1639) (by decide +kernel))
theorem kx_1640 : (Jvm.Cond.instanceMethod ({ cls := "CoinJudge$Curve", name := "sumHasR", desc := "()Z" } : Jvm.MethodName)) ∈ lw_tbl := List.mem_append_right _ (List.mem_of_getElem? (i := 1640) (by decide +kernel))
theorem kx_1641 : (Jvm.Cond.selects "CoinJudge$Curve" ({ cls := "CoinJudge$Curve", name := "sumHasR", desc := "()Z" } : Jvm.MethodName) ({ cls := "CoinJudge$Curve", name := "sumHasR", desc := "()Z" } : Jvm.MethodName)) ∈ lw_tbl := List.mem_append_right _ (List.mem_of_getElem? (i := 1641) (by decide +kernel))
theorem kx_1642 : (Jvm.Cond.code ({ cls := "CoinJudge$Curve", name := "sumHasR", desc := "()Z" } : Jvm.MethodName) prog_5_method_9_code (1 : Nat) (Option.some Jvm.ClassFile.FieldType.boolean)) ∈ lw_tbl := List.mem_append_right _ (List.mem_of_getElem? (i := 1642) (by decide +kernel))
theorem kx_1643 : (Jvm.Cond.methodLink "CoinJudge$Machine" (211 : Nat) ({ cls := "CoinJudge$Stack", name := "addFlag", desc := "(Z)Z" } : Jvm.MethodName)) ∈ lw_tbl := List.mem_append_right _ (List.mem_of_getElem? (i := 1643) (by decide +kernel))
theorem kx_1644 : (Jvm.Cond.instanceMethod ({ cls := "CoinJudge$Stack", name := "addFlag", desc := "(Z)Z" } : Jvm.MethodName)) ∈ lw_tbl := List.mem_append_right _ (List.mem_of_getElem? (i := 1644) (by decide +kernel))
theorem kx_1645 : (Jvm.Cond.selects "CoinJudge$Stack" ({ cls := "CoinJudge$Stack", name := "addFlag", desc := "(Z)Z" } : Jvm.MethodName) ({ cls := "CoinJudge$Stack", name := "addFlag", desc := "(Z)Z" } : Jvm.MethodName)) ∈ lw_tbl := List.mem_append_right _ (List.mem_of_getElem? (i := 1645) (by decide +kernel))
theorem kx_1648 : (Jvm.Cond.methodLink "CoinJudge$Machine" (173 : Nat) ({ cls := "CoinJudge$Machine", name := "hashTop", desc := "(I)Z" } : Jvm.MethodName)) ∈ lw_tbl := List.mem_append_right _ (List.mem_of_getElem? (i := 1648) (by decide +kernel))
theorem kx_1650 : (Jvm.Cond.instanceMethod ({ cls := "CoinJudge$Machine", name := "hashTop", desc := "(I)Z" } : Jvm.MethodName)) ∈ lw_tbl := List.mem_append_right _ (List.mem_of_getElem? (i := 1650) (by decide +kernel))
theorem kx_1651 : (Jvm.Cond.code ({ cls := "CoinJudge$Machine", name := "hashTop", desc := "(I)Z" } : Jvm.MethodName) prog_9_method_21_code (5 : Nat) (Option.some Jvm.ClassFile.FieldType.boolean)) ∈ lw_tbl := List.mem_append_right _ (List.mem_of_getElem? (i := 1651) (by decide +kernel))
theorem kx_1652 : (Jvm.Cond.methodLink "CoinJudge$Machine" (245 : Nat) ({ cls := "CoinJudge$Hasher", name := "ripe", desc := "([BII[BI)V" } : Jvm.MethodName)) ∈ lw_tbl := List.mem_append_right _ (List.mem_of_getElem? (i := 1652) (by decide +kernel))
theorem kx_1653 : (Jvm.Cond.methodLink "CoinJudge$Machine" (176 : Nat) ({ cls := "CoinJudge$Machine", name := "perform", desc := "(I)Z" } : Jvm.MethodName)) ∈ lw_tbl := List.mem_append_right _ (List.mem_of_getElem? (i := 1653) (by decide +kernel))
theorem kx_1655 : (Jvm.Cond.instanceMethod ({ cls := "CoinJudge$Machine", name := "perform", desc := "(I)Z" } : Jvm.MethodName)) ∈ lw_tbl := List.mem_append_right _ (List.mem_of_getElem? (i := 1655) (by decide +kernel))
theorem kx_1656 : (Jvm.Cond.code ({ cls := "CoinJudge$Machine", name := "perform", desc := "(I)Z" } : Jvm.MethodName) prog_9_method_12_code (2 : Nat) (Option.some Jvm.ClassFile.FieldType.boolean)) ∈ lw_tbl := List.mem_append_right _ (List.mem_of_getElem? (i := 1656) (by decide +kernel))
theorem kx_1657 : (Jvm.Cond.methodLink "CoinJudge$Machine" (182 : Nat) ({ cls := "CoinJudge$Stack", name := "addNumber", desc := "(J)Z" } : Jvm.MethodName)) ∈ lw_tbl := List.mem_append_right _ (List.mem_of_getElem? (i := 1657) (by decide +kernel))
theorem kx_1658 : (Jvm.Cond.instanceMethod ({ cls := "CoinJudge$Stack", name := "addNumber", desc := "(J)Z" } : Jvm.MethodName)) ∈ lw_tbl := List.mem_append_right _ (List.mem_of_getElem? (i := 1658) (by decide +kernel))
theorem kx_1659 : (Jvm.Cond.selects "CoinJudge$Stack" ({ cls := "CoinJudge$Stack", name := "addNumber", desc := "(J)Z" } : Jvm.MethodName) ({ cls := "CoinJudge$Stack", name := "addNumber", desc := "(J)Z" } : Jvm.MethodName)) ∈ lw_tbl := List.mem_append_right _ (List.mem_of_getElem? (i := 1659) (by decide +kernel))
theorem kx_1661 : (Jvm.Cond.methodLink "CoinJudge$Machine" (186 : Nat) ({ cls := "CoinJudge$Machine", name := "move", desc := "(I)Z" } : Jvm.MethodName)) ∈ lw_tbl := List.mem_append_right _ (List.mem_of_getElem? (i := 1661) (by decide +kernel))
theorem kx_1663 : (Jvm.Cond.instanceMethod ({ cls := "CoinJudge$Machine", name := "move", desc := "(I)Z" } : Jvm.MethodName)) ∈ lw_tbl := List.mem_append_right _ (List.mem_of_getElem? (i := 1663) (by decide +kernel))
theorem kx_1664 : (Jvm.Cond.code ({ cls := "CoinJudge$Machine", name := "move", desc := "(I)Z" } : Jvm.MethodName) prog_9_method_15_code (2 : Nat) (Option.some Jvm.ClassFile.FieldType.boolean)) ∈ lw_tbl := List.mem_append_right _ (List.mem_of_getElem? (i := 1664) (by decide +kernel))
theorem kx_1665 : (Jvm.Cond.fieldLink "CoinJudge$Machine" (215 : Nat) "CoinJudge$Machine" "NEEDED" "[I") ∈ lw_tbl := List.mem_append_right _ (List.mem_of_getElem? (i := 1665) (by decide +kernel))
theorem kx_1667 : (Jvm.Cond.methodLink "CoinJudge$Machine" (218 : Nat) ({ cls := "CoinJudge$Stack", name := "putAside", desc := "()Z" } : Jvm.MethodName)) ∈ lw_tbl := List.mem_append_right _ (List.mem_of_getElem? (i := 1667) (by decide +kernel))
theorem kx_1668 : (Jvm.Cond.instanceMethod ({ cls := "CoinJudge$Stack", name := "putAside", desc := "()Z" } : Jvm.MethodName)) ∈ lw_tbl := List.mem_append_right _ (List.mem_of_getElem? (i := 1668) (by decide +kernel))
theorem kx_1669 : (Jvm.Cond.selects "CoinJudge$Stack" ({ cls := "CoinJudge$Stack", name := "putAside", desc := "()Z" } : Jvm.MethodName) ({ cls := "CoinJudge$Stack", name := "putAside", desc := "()Z" } : Jvm.MethodName)) ∈ lw_tbl := List.mem_append_right _ (List.mem_of_getElem? (i := 1669) (by decide +kernel))
theorem kx_1671 : (Jvm.Cond.methodLink "CoinJudge$Machine" (221 : Nat) ({ cls := "CoinJudge$Stack", name := "takeBack", desc := "()Z" } : Jvm.MethodName)) ∈ lw_tbl := List.mem_append_right _ (List.mem_of_getElem? (i := 1671) (by decide +kernel))
theorem kx_1672 : (Jvm.Cond.instanceMethod ({ cls := "CoinJudge$Stack", name := "takeBack", desc := "()Z" } : Jvm.MethodName)) ∈ lw_tbl := List.mem_append_right _ (List.mem_of_getElem? (i := 1672) (by decide +kernel))
theorem kx_1673 : (Jvm.Cond.selects "CoinJudge$Stack" ({ cls := "CoinJudge$Stack", name := "takeBack", desc := "()Z" } : Jvm.MethodName) ({ cls := "CoinJudge$Stack", name := "takeBack", desc := "()Z" } : Jvm.MethodName)) ∈ lw_tbl := List.mem_append_right _ (List.mem_of_getElem? (i := 1673) (by decide +kernel))
theorem kx_1675 : (Jvm.Cond.methodLink "CoinJudge$Machine" (224 : Nat) ({ cls := "CoinJudge$Stack", name := "copy", desc := "(I)Z" } : Jvm.MethodName)) ∈ lw_tbl := List.mem_append_right _ (List.mem_of_getElem? (i := 1675) (by decide +kernel))
theorem kx_1676 : (Jvm.Cond.instanceMethod ({ cls := "CoinJudge$Stack", name := "copy", desc := "(I)Z" } : Jvm.MethodName)) ∈ lw_tbl := List.mem_append_right _ (List.mem_of_getElem? (i := 1676) (by decide +kernel))
theorem kx_1677 : (Jvm.Cond.selects "CoinJudge$Stack" ({ cls := "CoinJudge$Stack", name := "copy", desc := "(I)Z" } : Jvm.MethodName) ({ cls := "CoinJudge$Stack", name := "copy", desc := "(I)Z" } : Jvm.MethodName)) ∈ lw_tbl := List.mem_append_right _ (List.mem_of_getElem? (i := 1677) (by decide +kernel))
theorem kx_1679 : (Jvm.Cond.methodLink "CoinJudge$Machine" (227 : Nat) ({ cls := "CoinJudge$Stack", name := "lift", desc := "(I)Z" } : Jvm.MethodName)) ∈ lw_tbl := List.mem_append_right _ (List.mem_of_getElem? (i := 1679) (by decide +kernel))
theorem kx_1680 : (Jvm.Cond.instanceMethod ({ cls := "CoinJudge$Stack", name := "lift", desc := "(I)Z" } : Jvm.MethodName)) ∈ lw_tbl := List.mem_append_right _ (List.mem_of_getElem? (i := 1680) (by decide +kernel))
theorem kx_1681 : (Jvm.Cond.selects "CoinJudge$Stack" ({ cls := "CoinJudge$Stack", name := "lift", desc := "(I)Z" } : Jvm.MethodName) ({ cls := "CoinJudge$Stack", name := "lift", desc := "(I)Z" } : Jvm.MethodName)) ∈ lw_tbl := List.mem_append_right _ (List.mem_of_getElem? (i := 1681) (by decide +kernel))
theorem kx_1683 : (Jvm.Cond.methodLink "CoinJudge$Machine" (230 : Nat) ({ cls := "CoinJudge$Machine", name := "moveByNumber", desc := "(Z)Z" } : Jvm.MethodName)) ∈ lw_tbl := List.mem_append_right _ (List.mem_of_getElem? (i := 1683) (by decide +kernel))
theorem kx_1685 : (Jvm.Cond.instanceMethod ({ cls := "CoinJudge$Machine", name := "moveByNumber", desc := "(Z)Z" } : Jvm.MethodName)) ∈ lw_tbl := List.mem_append_right _ (List.mem_of_getElem? (i := 1685) (by decide +kernel))
theorem kx_1686 : (Jvm.Cond.code ({ cls := "CoinJudge$Machine", name := "moveByNumber", desc := "(Z)Z" } : Jvm.MethodName) prog_9_method_16_code (3 : Nat) (Option.some Jvm.ClassFile.FieldType.boolean)) ∈ lw_tbl := List.mem_append_right _ (List.mem_of_getElem? (i := 1686) (by decide +kernel))
theorem kx_1687 : (Jvm.Cond.methodLink "CoinJudge$Machine" (189 : Nat) ({ cls := "CoinJudge$Machine", name := "reckon", desc := "(I)Z" } : Jvm.MethodName)) ∈ lw_tbl := List.mem_append_right _ (List.mem_of_getElem? (i := 1687) (by decide +kernel))
theorem kx_1689 : (Jvm.Cond.instanceMethod ({ cls := "CoinJudge$Machine", name := "reckon", desc := "(I)Z" } : Jvm.MethodName)) ∈ lw_tbl := List.mem_append_right _ (List.mem_of_getElem? (i := 1689) (by decide +kernel))
theorem kx_1690 : (Jvm.Cond.code ({ cls := "CoinJudge$Machine", name := "reckon", desc := "(I)Z" } : Jvm.MethodName) prog_9_method_17_code (10 : Nat) (Option.some Jvm.ClassFile.FieldType.boolean)) ∈ lw_tbl := List.mem_append_right _ (List.mem_of_getElem? (i := 1690) (by decide +kernel))
theorem kx_1691 : (Jvm.Cond.methodLink "CoinJudge$Machine" (233 : Nat) ({ cls := "CoinJudge$Machine", name := "ofOne", desc := "(IJ)J" } : Jvm.MethodName)) ∈ lw_tbl := List.mem_append_right _ (List.mem_of_getElem? (i := 1691) (by decide +kernel))
theorem kx_1692 : (Jvm.Cond.static ({ cls := "CoinJudge$Machine", name := "ofOne", desc := "(IJ)J" } : Jvm.MethodName)) ∈ lw_tbl := List.mem_append_right _ (List.mem_of_getElem? (i := 1692) (by decide +kernel))
theorem kx_1693 : (Jvm.Cond.code ({ cls := "CoinJudge$Machine", name := "ofOne", desc := "(IJ)J" } : Jvm.MethodName) prog_9_method_18_code (3 : Nat) (Option.some Jvm.ClassFile.FieldType.long)) ∈ lw_tbl := List.mem_append_right _ (List.mem_of_getElem? (i := 1693) (by decide +kernel))
theorem kx_1694 : (Jvm.Cond.methodLink "CoinJudge$Machine" (237 : Nat) ({ cls := "CoinJudge$Machine", name := "ofTwo", desc := "(IJJ)J" } : Jvm.MethodName)) ∈ lw_tbl := List.mem_append_right _ (List.mem_of_getElem? (i := 1694) (by decide +kernel))
theorem kx_1695 : (Jvm.Cond.static ({ cls := "CoinJudge$Machine", name := "ofTwo", desc := "(IJJ)J" } : Jvm.MethodName)) ∈ lw_tbl := List.mem_append_right _ (List.mem_of_getElem? (i := 1695) (by decide +kernel))
theorem kx_1696 : (Jvm.Cond.code ({ cls := "CoinJudge$Machine", name := "ofTwo", desc := "(IJJ)J" } : Jvm.MethodName) prog_9_method_19_code (5 : Nat) (Option.some Jvm.ClassFile.FieldType.long)) ∈ lw_tbl := List.mem_append_right _ (List.mem_of_getElem? (i := 1696) (by decide +kernel))
theorem kx_1697 : (Jvm.Cond.methodLink "CoinJudge$Machine" (241 : Nat) ({ cls := "CoinJudge$Machine", name := "holds", desc := "(IJJ)Z" } : Jvm.MethodName)) ∈ lw_tbl := List.mem_append_right _ (List.mem_of_getElem? (i := 1697) (by decide +kernel))
theorem kx_1698 : (Jvm.Cond.static ({ cls := "CoinJudge$Machine", name := "holds", desc := "(IJJ)Z" } : Jvm.MethodName)) ∈ lw_tbl := List.mem_append_right _ (List.mem_of_getElem? (i := 1698) (by decide +kernel))
theorem kx_1699 : (Jvm.Cond.code ({ cls := "CoinJudge$Machine", name := "holds", desc := "(IJJ)Z" } : Jvm.MethodName) prog_9_method_20_code (5 : Nat) (Option.some Jvm.ClassFile.FieldType.boolean)) ∈ lw_tbl := List.mem_append_right _ (List.mem_of_getElem? (i := 1699) (by decide +kernel))
theorem kx_1700 : (Jvm.Cond.methodLink "CoinJudge$Machine" (192 : Nat) ({ cls := "CoinJudge$Machine", name := "verify", desc := "()Z" } : Jvm.MethodName)) ∈ lw_tbl := List.mem_append_right _ (List.mem_of_getElem? (i := 1700) (by decide +kernel))
theorem kx_1702 : (Jvm.Cond.instanceMethod ({ cls := "CoinJudge$Machine", name := "verify", desc := "()Z" } : Jvm.MethodName)) ∈ lw_tbl := List.mem_append_right _ (List.mem_of_getElem? (i := 1702) (by decide +kernel))
theorem kx_1703 : (Jvm.Cond.code ({ cls := "CoinJudge$Machine", name := "verify", desc := "()Z" } : Jvm.MethodName) prog_9_method_13_code (2 : Nat) (Option.some Jvm.ClassFile.FieldType.boolean)) ∈ lw_tbl := List.mem_append_right _ (List.mem_of_getElem? (i := 1703) (by decide +kernel))
theorem kx_1704 : (Jvm.Cond.methodLink "CoinJudge$Machine" (195 : Nat) ({ cls := "CoinJudge$Machine", name := "compare", desc := "()Z" } : Jvm.MethodName)) ∈ lw_tbl := List.mem_append_right _ (List.mem_of_getElem? (i := 1704) (by decide +kernel))
theorem kx_1706 : (Jvm.Cond.instanceMethod ({ cls := "CoinJudge$Machine", name := "compare", desc := "()Z" } : Jvm.MethodName)) ∈ lw_tbl := List.mem_append_right _ (List.mem_of_getElem? (i := 1706) (by decide +kernel))
theorem kx_1707 : (Jvm.Cond.code ({ cls := "CoinJudge$Machine", name := "compare", desc := "()Z" } : Jvm.MethodName) prog_9_method_14_code (2 : Nat) (Option.some Jvm.ClassFile.FieldType.boolean)) ∈ lw_tbl := List.mem_append_right _ (List.mem_of_getElem? (i := 1707) (by decide +kernel))
theorem kx_1708 : (Jvm.Cond.methodLink "CoinJudge$Machine" (208 : Nat) ({ cls := "CoinJudge$Stack", name := "areTopTwoSame", desc := "()Z" } : Jvm.MethodName)) ∈ lw_tbl := List.mem_append_right _ (List.mem_of_getElem? (i := 1708) (by decide +kernel))
theorem kx_1709 : (Jvm.Cond.instanceMethod ({ cls := "CoinJudge$Stack", name := "areTopTwoSame", desc := "()Z" } : Jvm.MethodName)) ∈ lw_tbl := List.mem_append_right _ (List.mem_of_getElem? (i := 1709) (by decide +kernel))
theorem kx_1710 : (Jvm.Cond.selects "CoinJudge$Stack" ({ cls := "CoinJudge$Stack", name := "areTopTwoSame", desc := "()Z" } : Jvm.MethodName) ({ cls := "CoinJudge$Stack", name := "areTopTwoSame", desc := "()Z" } : Jvm.MethodName)) ∈ lw_tbl := List.mem_append_right _ (List.mem_of_getElem? (i := 1710) (by decide +kernel))
theorem kx_1712 : (Jvm.Cond.methodLink "CoinJudge$Machine" (204 : Nat) ({ cls := "CoinJudge$TxView", name := "locksUntil", desc := "(JI)Z" } : Jvm.MethodName)) ∈ lw_tbl := List.mem_append_right _ (List.mem_of_getElem? (i := 1712) (by decide +kernel))
theorem kx_1713 : (Jvm.Cond.instanceMethod ({ cls := "CoinJudge$TxView", name := "locksUntil", desc := "(JI)Z" } : Jvm.MethodName)) ∈ lw_tbl := List.mem_append_right _ (List.mem_of_getElem? (i := 1713) (by decide +kernel))
theorem kx_1714 : (Jvm.Cond.selects "CoinJudge$TxView" ({ cls := "CoinJudge$TxView", name := "locksUntil", desc := "(JI)Z" } : Jvm.MethodName) ({ cls := "CoinJudge$TxView", name := "locksUntil", desc := "(JI)Z" } : Jvm.MethodName)) ∈ lw_tbl := List.mem_append_right _ (List.mem_of_getElem? (i := 1714) (by decide +kernel))
theorem kx_1716 : (Jvm.Cond.methodLink "CoinJudge$Machine" (179 : Nat) ({ cls := "CoinJudge$Stack", name := "isTooHigh", desc := "()Z" } : Jvm.MethodName)) ∈ lw_tbl := List.mem_append_right _ (List.mem_of_getElem? (i := 1716) (by decide +kernel))
theorem kx_1717 : (Jvm.Cond.instanceMethod ({ cls := "CoinJudge$Stack", name := "isTooHigh", desc := "()Z" } : Jvm.MethodName)) ∈ lw_tbl := List.mem_append_right _ (List.mem_of_getElem? (i := 1717) (by decide +kernel))
theorem kx_1718 : (Jvm.Cond.selects "CoinJudge$Stack" ({ cls := "CoinJudge$Stack", name := "isTooHigh", desc := "()Z" } : Jvm.MethodName) ({ cls := "CoinJudge$Stack", name := "isTooHigh", desc := "()Z" } : Jvm.MethodName)) ∈ lw_tbl := List.mem_append_right _ (List.mem_of_getElem? (i := 1718) (by decide +kernel))
theorem kx_1720 : (Jvm.Cond.methodLink "CoinJudge$Machine" (88 : Nat) ({ cls := "CoinJudge$Machine", name := "hasPushesAlone", desc := "([BII)Z" } : Jvm.MethodName)) ∈ lw_tbl := List.mem_append_right _ (List.mem_of_getElem? (i := 1720) (by decide +kernel))
theorem kx_1721 : (Jvm.Cond.static ({ cls := "CoinJudge$Machine", name := "hasPushesAlone", desc := "([BII)Z" } : Jvm.MethodName)) ∈ lw_tbl := List.mem_append_right _ (List.mem_of_getElem? (i := 1721) (by decide +kernel))
theorem kx_1722 : (Jvm.Cond.code ({ cls := "CoinJudge$Machine", name := "hasPushesAlone", desc := "([BII)Z" } : Jvm.MethodName) prog_9_method_10_code (5 : Nat) (Option.some Jvm.ClassFile.FieldType.boolean)) ∈ lw_tbl := List.mem_append_right _ (List.mem_of_getElem? (i := 1722) (by decide +kernel))
theorem kxp_22 : Cond.selects "CoinJudge$Machine" ({ cls := "CoinJudge$Machine", name := "pushesSignature", desc := "([BIII)Z" } : MethodName) ({ cls := "CoinJudge$Machine", name := "pushesSignature", desc := "([BIII)Z" } : MethodName) ∈ lw_tbl := List.mem_append_left _ (List.mem_of_getElem? (i := 22) (by decide +kernel))
theorem kxp_34 : Cond.selects "CoinJudge$Machine" ({ cls := "CoinJudge$Machine", name := "run", desc := "([BII)Z" } : MethodName) ({ cls := "CoinJudge$Machine", name := "run", desc := "([BII)Z" } : MethodName) ∈ lw_tbl := List.mem_append_left _ (List.mem_of_getElem? (i := 34) (by decide +kernel))
theorem kxp_35 : Cond.selects "CoinJudge$Machine" ({ cls := "CoinJudge$Machine", name := "isAllowed", desc := "(II)Z" } : MethodName) ({ cls := "CoinJudge$Machine", name := "isAllowed", desc := "(II)Z" } : MethodName) ∈ lw_tbl := List.mem_append_left _ (List.mem_of_getElem? (i := 35) (by decide +kernel))
theorem kxp_36 : Cond.selects "CoinJudge$Machine" ({ cls := "CoinJudge$Machine", name := "branch", desc := "(I)Z" } : MethodName) ({ cls := "CoinJudge$Machine", name := "branch", desc := "(I)Z" } : MethodName) ∈ lw_tbl := List.mem_append_left _ (List.mem_of_getElem? (i := 36) (by decide +kernel))
theorem kxp_37 : Cond.selects "CoinJudge$Machine" ({ cls := "CoinJudge$Machine", name := "ask", desc := "(I)Z" } : MethodName) ({ cls := "CoinJudge$Machine", name := "ask", desc := "(I)Z" } : MethodName) ∈ lw_tbl := List.mem_append_left _ (List.mem_of_getElem? (i := 37) (by decide +kernel))
theorem kxp_38 : Cond.selects "CoinJudge$Machine" ({ cls := "CoinJudge$Machine", name := "gatherOne", desc := "()I" } : MethodName) ({ cls := "CoinJudge$Machine", name := "gatherOne", desc := "()I" } : MethodName) ∈ lw_tbl := List.mem_append_left _ (List.mem_of_getElem? (i := 38) (by decide +kernel))
theorem kxp_39 : Cond.selects "CoinJudge$Machine" ({ cls := "CoinJudge$Machine", name := "gatherMany", desc := "()I" } : MethodName) ({ cls := "CoinJudge$Machine", name := "gatherMany", desc := "()I" } : MethodName) ∈ lw_tbl := List.mem_append_left _ (List.mem_of_getElem? (i := 39) (by decide +kernel))
theorem kxp_42 : Cond.selects "CoinJudge$Machine" ({ cls := "CoinJudge$Machine", name := "hashTop", desc := "(I)Z" } : MethodName) ({ cls := "CoinJudge$Machine", name := "hashTop", desc := "(I)Z" } : MethodName) ∈ lw_tbl := List.mem_append_left _ (List.mem_of_getElem? (i := 42) (by decide +kernel))
theorem kxp_43 : Cond.selects "CoinJudge$Machine" ({ cls := "CoinJudge$Machine", name := "perform", desc := "(I)Z" } : MethodName) ({ cls := "CoinJudge$Machine", name := "perform", desc := "(I)Z" } : MethodName) ∈ lw_tbl := List.mem_append_left _ (List.mem_of_getElem? (i := 43) (by decide +kernel))
theorem kxp_44 : Cond.selects "CoinJudge$Machine" ({ cls := "CoinJudge$Machine", name := "move", desc := "(I)Z" } : MethodName) ({ cls := "CoinJudge$Machine", name := "move", desc := "(I)Z" } : MethodName) ∈ lw_tbl := List.mem_append_left _ (List.mem_of_getElem? (i := 44) (by decide +kernel))
theorem kxp_45 : Cond.selects "CoinJudge$Machine" ({ cls := "CoinJudge$Machine", name := "moveByNumber", desc := "(Z)Z" } : MethodName) ({ cls := "CoinJudge$Machine", name := "moveByNumber", desc := "(Z)Z" } : MethodName) ∈ lw_tbl := List.mem_append_left _ (List.mem_of_getElem? (i := 45) (by decide +kernel))
theorem kxp_46 : Cond.selects "CoinJudge$Machine" ({ cls := "CoinJudge$Machine", name := "reckon", desc := "(I)Z" } : MethodName) ({ cls := "CoinJudge$Machine", name := "reckon", desc := "(I)Z" } : MethodName) ∈ lw_tbl := List.mem_append_left _ (List.mem_of_getElem? (i := 46) (by decide +kernel))
theorem kxp_47 : Cond.selects "CoinJudge$Machine" ({ cls := "CoinJudge$Machine", name := "verify", desc := "()Z" } : MethodName) ({ cls := "CoinJudge$Machine", name := "verify", desc := "()Z" } : MethodName) ∈ lw_tbl := List.mem_append_left _ (List.mem_of_getElem? (i := 47) (by decide +kernel))
theorem kxp_48 : Cond.selects "CoinJudge$Machine" ({ cls := "CoinJudge$Machine", name := "compare", desc := "()Z" } : MethodName) ({ cls := "CoinJudge$Machine", name := "compare", desc := "()Z" } : MethodName) ∈ lw_tbl := List.mem_append_left _ (List.mem_of_getElem? (i := 48) (by decide +kernel))

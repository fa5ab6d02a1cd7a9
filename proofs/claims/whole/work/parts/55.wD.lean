theorem cl_X5 : vwCl[8]? = some (RX5, TX5, 6) := rfl
theorem in_X5 : ∀ w ∈ u_ws RX5 TX5 6, w ∈ lw_tbl ∧ goodWord w = true := by decide +kernel
abbrev mX5_init : ks_M := (RX5, cX5_init, 3, none, "<init>")
theorem dX5_init_0 : decode cX5_init 0 = .ok (.aload_n 0, 1) := by decide +kernel
theorem dX5_init_1 : decode cX5_init 1 = .ok (.invokespecial 5, 3) := by decide +kernel
theorem dX5_init_4 : decode cX5_init 4 = .ok (.aload_n 0, 1) := by decide +kernel
theorem dX5_init_5 : decode cX5_init 5 = .ok (.bipush 9, 2) := by decide +kernel
theorem dX5_init_7 : decode cX5_init 7 = .ok (.iload_n 2, 1) := by decide +kernel
theorem dX5_init_8 : decode cX5_init 8 = .ok (.iconst 5, 1) := by decide +kernel
theorem dX5_init_9 : decode cX5_init 9 = .ok (.iadd, 1) := by decide +kernel
theorem dX5_init_10 : decode cX5_init 10 = .ok (.imul, 1) := by decide +kernel
theorem dX5_init_11 : decode cX5_init 11 = .ok (.newarray .long, 2) := by decide +kernel
theorem dX5_init_13 : decode cX5_init 13 = .ok (.putfield 11, 3) := by decide +kernel
theorem dX5_init_16 : decode cX5_init 16 = .ok (.aload_n 0, 1) := by decide +kernel
theorem dX5_init_17 : decode cX5_init 17 = .ok (.bipush 9, 2) := by decide +kernel
theorem dX5_init_19 : decode cX5_init 19 = .ok (.iload_n 2, 1) := by decide +kernel
theorem dX5_init_20 : decode cX5_init 20 = .ok (.imul, 1) := by decide +kernel
theorem dX5_init_21 : decode cX5_init 21 = .ok (.putfield 15, 3) := by decide +kernel
theorem dX5_init_24 : decode cX5_init 24 = .ok (.aload_n 0, 1) := by decide +kernel
theorem dX5_init_25 : decode cX5_init 25 = .ok (.aload_n 0, 1) := by decide +kernel
theorem dX5_init_26 : decode cX5_init 26 = .ok (.getfield 15, 3) := by decide +kernel
theorem dX5_init_29 : decode cX5_init 29 = .ok (.bipush 9, 2) := by decide +kernel
theorem dX5_init_31 : decode cX5_init 31 = .ok (.iadd, 1) := by decide +kernel
theorem dX5_init_32 : decode cX5_init 32 = .ok (.putfield 19, 3) := by decide +kernel
theorem dX5_init_35 : decode cX5_init 35 = .ok (.aload_n 0, 1) := by decide +kernel
theorem dX5_init_36 : decode cX5_init 36 = .ok (.aload_n 0, 1) := by decide +kernel
theorem dX5_init_37 : decode cX5_init 37 = .ok (.getfield 19, 3) := by decide +kernel
theorem dX5_init_40 : decode cX5_init 40 = .ok (.bipush 9, 2) := by decide +kernel
theorem dX5_init_42 : decode cX5_init 42 = .ok (.iadd, 1) := by decide +kernel
theorem dX5_init_43 : decode cX5_init 43 = .ok (.putfield 22, 3) := by decide +kernel
theorem dX5_init_46 : decode cX5_init 46 = .ok (.aload_n 0, 1) := by decide +kernel
theorem dX5_init_47 : decode cX5_init 47 = .ok (.aload_n 0, 1) := by decide +kernel
theorem dX5_init_48 : decode cX5_init 48 = .ok (.getfield 22, 3) := by decide +kernel
theorem dX5_init_51 : decode cX5_init 51 = .ok (.bipush 9, 2) := by decide +kernel
theorem dX5_init_53 : decode cX5_init 53 = .ok (.iadd, 1) := by decide +kernel
theorem dX5_init_54 : decode cX5_init 54 = .ok (.putfield 25, 3) := by decide +kernel
theorem dX5_init_57 : decode cX5_init 57 = .ok (.aload_n 0, 1) := by decide +kernel
theorem dX5_init_58 : decode cX5_init 58 = .ok (.aload_n 0, 1) := by decide +kernel
theorem dX5_init_59 : decode cX5_init 59 = .ok (.getfield 25, 3) := by decide +kernel
theorem dX5_init_62 : decode cX5_init 62 = .ok (.bipush 9, 2) := by decide +kernel
theorem dX5_init_64 : decode cX5_init 64 = .ok (.iadd, 1) := by decide +kernel
theorem dX5_init_65 : decode cX5_init 65 = .ok (.putfield 28, 3) := by decide +kernel
theorem dX5_init_68 : decode cX5_init 68 = .ok (.aload_n 0, 1) := by decide +kernel
theorem dX5_init_69 : decode cX5_init 69 = .ok (.aload_n 0, 1) := by decide +kernel
theorem dX5_init_70 : decode cX5_init 70 = .ok (.getfield 15, 3) := by decide +kernel
theorem dX5_init_73 : decode cX5_init 73 = .ok (.aload_n 1, 1) := by decide +kernel
theorem dX5_init_74 : decode cX5_init 74 = .ok (.invokevirtual 31, 3) := by decide +kernel
theorem dX5_init_77 : decode cX5_init 77 = .ok (.return_, 1) := by decide +kernel
abbrev mX5_loadWords : ks_M := (RX5, cX5_loadWords, 8, none, "loadWords")
theorem dX5_loadWords_0 : decode cX5_loadWords 0 = .ok (.iconst 0, 1) := by decide +kernel
theorem dX5_loadWords_1 : decode cX5_loadWords 1 = .ok (.istore_n 3, 1) := by decide +kernel
theorem dX5_loadWords_2 : decode cX5_loadWords 2 = .ok (.iload_n 3, 1) := by decide +kernel
theorem dX5_loadWords_3 : decode cX5_loadWords 3 = .ok (.bipush 9, 2) := by decide +kernel
theorem dX5_loadWords_5 : decode cX5_loadWords 5 = .ok (.if_icmp .ge 76, 3) := by decide +kernel
theorem dX5_loadWords_8 : decode cX5_loadWords 8 = .ok (.bipush 29, 2) := by decide +kernel
theorem dX5_loadWords_10 : decode cX5_loadWords 10 = .ok (.iload_n 3, 1) := by decide +kernel
theorem dX5_loadWords_11 : decode cX5_loadWords 11 = .ok (.imul, 1) := by decide +kernel
theorem dX5_loadWords_12 : decode cX5_loadWords 12 = .ok (.istore 4, 2) := by decide +kernel
theorem dX5_loadWords_14 : decode cX5_loadWords 14 = .ok (.bipush 7, 2) := by decide +kernel
theorem dX5_loadWords_16 : decode cX5_loadWords 16 = .ok (.iload 4, 2) := by decide +kernel
theorem dX5_loadWords_18 : decode cX5_loadWords 18 = .ok (.bipush 32, 2) := by decide +kernel
theorem dX5_loadWords_20 : decode cX5_loadWords 20 = .ok (.idiv, 1) := by decide +kernel
theorem dX5_loadWords_21 : decode cX5_loadWords 21 = .ok (.isub, 1) := by decide +kernel
theorem dX5_loadWords_22 : decode cX5_loadWords 22 = .ok (.istore 5, 2) := by decide +kernel
theorem dX5_loadWords_24 : decode cX5_loadWords 24 = .ok (.aload_n 2, 1) := by decide +kernel
theorem dX5_loadWords_25 : decode cX5_loadWords 25 = .ok (.iload 5, 2) := by decide +kernel
theorem dX5_loadWords_27 : decode cX5_loadWords 27 = .ok (.iaload, 1) := by decide +kernel
theorem dX5_loadWords_28 : decode cX5_loadWords 28 = .ok (.i2l, 1) := by decide +kernel
theorem dX5_loadWords_29 : decode cX5_loadWords 29 = .ok (.ldc2_w 35, 3) := by decide +kernel
theorem dX5_loadWords_32 : decode cX5_loadWords 32 = .ok (.land, 1) := by decide +kernel
theorem dX5_loadWords_33 : decode cX5_loadWords 33 = .ok (.lstore 6, 2) := by decide +kernel
theorem dX5_loadWords_35 : decode cX5_loadWords 35 = .ok (.iload 5, 2) := by decide +kernel
theorem dX5_loadWords_37 : decode cX5_loadWords 37 = .ok (.ifCond .le 18, 3) := by decide +kernel
theorem dX5_loadWords_40 : decode cX5_loadWords 40 = .ok (.lload 6, 2) := by decide +kernel
theorem dX5_loadWords_42 : decode cX5_loadWords 42 = .ok (.aload_n 2, 1) := by decide +kernel
theorem dX5_loadWords_43 : decode cX5_loadWords 43 = .ok (.iload 5, 2) := by decide +kernel
theorem dX5_loadWords_45 : decode cX5_loadWords 45 = .ok (.iconst 1, 1) := by decide +kernel
theorem dX5_loadWords_46 : decode cX5_loadWords 46 = .ok (.isub, 1) := by decide +kernel
theorem dX5_loadWords_47 : decode cX5_loadWords 47 = .ok (.iaload, 1) := by decide +kernel
theorem dX5_loadWords_48 : decode cX5_loadWords 48 = .ok (.i2l, 1) := by decide +kernel
theorem dX5_loadWords_49 : decode cX5_loadWords 49 = .ok (.bipush 32, 2) := by decide +kernel
theorem dX5_loadWords_51 : decode cX5_loadWords 51 = .ok (.lshl, 1) := by decide +kernel
theorem dX5_loadWords_52 : decode cX5_loadWords 52 = .ok (.lor, 1) := by decide +kernel
theorem dX5_loadWords_53 : decode cX5_loadWords 53 = .ok (.lstore 6, 2) := by decide +kernel
theorem dX5_loadWords_55 : decode cX5_loadWords 55 = .ok (.aload_n 0, 1) := by decide +kernel
theorem dX5_loadWords_56 : decode cX5_loadWords 56 = .ok (.getfield 11, 3) := by decide +kernel
theorem dX5_loadWords_59 : decode cX5_loadWords 59 = .ok (.iload_n 1, 1) := by decide +kernel
theorem dX5_loadWords_60 : decode cX5_loadWords 60 = .ok (.iload_n 3, 1) := by decide +kernel
theorem dX5_loadWords_61 : decode cX5_loadWords 61 = .ok (.iadd, 1) := by decide +kernel
theorem dX5_loadWords_62 : decode cX5_loadWords 62 = .ok (.lload 6, 2) := by decide +kernel
theorem dX5_loadWords_64 : decode cX5_loadWords 64 = .ok (.iload 4, 2) := by decide +kernel
theorem dX5_loadWords_66 : decode cX5_loadWords 66 = .ok (.bipush 32, 2) := by decide +kernel
theorem dX5_loadWords_68 : decode cX5_loadWords 68 = .ok (.irem, 1) := by decide +kernel
theorem dX5_loadWords_69 : decode cX5_loadWords 69 = .ok (.lushr, 1) := by decide +kernel
theorem dX5_loadWords_70 : decode cX5_loadWords 70 = .ok (.ldc2_w 37, 3) := by decide +kernel
theorem dX5_loadWords_73 : decode cX5_loadWords 73 = .ok (.land, 1) := by decide +kernel
theorem dX5_loadWords_74 : decode cX5_loadWords 74 = .ok (.lastore, 1) := by decide +kernel
theorem dX5_loadWords_75 : decode cX5_loadWords 75 = .ok (.iinc 3 1, 3) := by decide +kernel
theorem dX5_loadWords_78 : decode cX5_loadWords 78 = .ok (.goto (-76), 3) := by decide +kernel
theorem dX5_loadWords_81 : decode cX5_loadWords 81 = .ok (.return_, 1) := by decide +kernel
abbrev mX5_load : ks_M := (RX5, cX5_load, 9, none, "load")
theorem dX5_load_0 : decode cX5_load 0 = .ok (.lconst 0, 1) := by decide +kernel
theorem dX5_load_1 : decode cX5_load 1 = .ok (.lstore 4, 2) := by decide +kernel
theorem dX5_load_3 : decode cX5_load 3 = .ok (.iconst 0, 1) := by decide +kernel
theorem dX5_load_4 : decode cX5_load 4 = .ok (.istore 6, 2) := by decide +kernel
theorem dX5_load_6 : decode cX5_load 6 = .ok (.iload_n 1, 1) := by decide +kernel
theorem dX5_load_7 : decode cX5_load 7 = .ok (.istore 7, 2) := by decide +kernel
theorem dX5_load_9 : decode cX5_load 9 = .ok (.bipush 31, 2) := by decide +kernel
theorem dX5_load_11 : decode cX5_load 11 = .ok (.istore 8, 2) := by decide +kernel
theorem dX5_load_13 : decode cX5_load 13 = .ok (.iload 8, 2) := by decide +kernel
theorem dX5_load_15 : decode cX5_load 15 = .ok (.ifCond .lt 64, 3) := by decide +kernel
theorem dX5_load_18 : decode cX5_load 18 = .ok (.lload 4, 2) := by decide +kernel
theorem dX5_load_20 : decode cX5_load 20 = .ok (.aload_n 2, 1) := by decide +kernel
theorem dX5_load_21 : decode cX5_load 21 = .ok (.iload_n 3, 1) := by decide +kernel
theorem dX5_load_22 : decode cX5_load 22 = .ok (.iload 8, 2) := by decide +kernel
theorem dX5_load_24 : decode cX5_load 24 = .ok (.iadd, 1) := by decide +kernel
theorem dX5_load_25 : decode cX5_load 25 = .ok (.baload, 1) := by decide +kernel
theorem dX5_load_26 : decode cX5_load 26 = .ok (.i2l, 1) := by decide +kernel
theorem dX5_load_27 : decode cX5_load 27 = .ok (.ldc2_w 39, 3) := by decide +kernel
theorem dX5_load_30 : decode cX5_load 30 = .ok (.land, 1) := by decide +kernel
theorem dX5_load_31 : decode cX5_load 31 = .ok (.iload 6, 2) := by decide +kernel
theorem dX5_load_33 : decode cX5_load 33 = .ok (.lshl, 1) := by decide +kernel
theorem dX5_load_34 : decode cX5_load 34 = .ok (.lor, 1) := by decide +kernel
theorem dX5_load_35 : decode cX5_load 35 = .ok (.lstore 4, 2) := by decide +kernel
theorem dX5_load_37 : decode cX5_load 37 = .ok (.iinc 6 8, 3) := by decide +kernel
theorem dX5_load_40 : decode cX5_load 40 = .ok (.iload 6, 2) := by decide +kernel
theorem dX5_load_42 : decode cX5_load 42 = .ok (.bipush 29, 2) := by decide +kernel
theorem dX5_load_44 : decode cX5_load 44 = .ok (.if_icmp .lt 29, 3) := by decide +kernel
theorem dX5_load_47 : decode cX5_load 47 = .ok (.aload_n 0, 1) := by decide +kernel
theorem dX5_load_48 : decode cX5_load 48 = .ok (.getfield 11, 3) := by decide +kernel
theorem dX5_load_51 : decode cX5_load 51 = .ok (.iload 7, 2) := by decide +kernel
theorem dX5_load_53 : decode cX5_load 53 = .ok (.lload 4, 2) := by decide +kernel
theorem dX5_load_55 : decode cX5_load 55 = .ok (.ldc2_w 37, 3) := by decide +kernel
theorem dX5_load_58 : decode cX5_load 58 = .ok (.land, 1) := by decide +kernel
theorem dX5_load_59 : decode cX5_load 59 = .ok (.lastore, 1) := by decide +kernel
theorem dX5_load_60 : decode cX5_load 60 = .ok (.iinc 7 1, 3) := by decide +kernel
theorem dX5_load_63 : decode cX5_load 63 = .ok (.lload 4, 2) := by decide +kernel
theorem dX5_load_65 : decode cX5_load 65 = .ok (.bipush 29, 2) := by decide +kernel
theorem dX5_load_67 : decode cX5_load 67 = .ok (.lushr, 1) := by decide +kernel
theorem dX5_load_68 : decode cX5_load 68 = .ok (.lstore 4, 2) := by decide +kernel
theorem dX5_load_70 : decode cX5_load 70 = .ok (.iinc 6 (-29), 3) := by decide +kernel
theorem dX5_load_73 : decode cX5_load 73 = .ok (.iinc 8 (-1), 3) := by decide +kernel
theorem dX5_load_76 : decode cX5_load 76 = .ok (.goto (-63), 3) := by decide +kernel
theorem dX5_load_79 : decode cX5_load 79 = .ok (.aload_n 0, 1) := by decide +kernel
theorem dX5_load_80 : decode cX5_load 80 = .ok (.getfield 11, 3) := by decide +kernel
theorem dX5_load_83 : decode cX5_load 83 = .ok (.iload_n 1, 1) := by decide +kernel
theorem dX5_load_84 : decode cX5_load 84 = .ok (.bipush 8, 2) := by decide +kernel
theorem dX5_load_86 : decode cX5_load 86 = .ok (.iadd, 1) := by decide +kernel
theorem dX5_load_87 : decode cX5_load 87 = .ok (.lload 4, 2) := by decide +kernel
theorem dX5_load_89 : decode cX5_load 89 = .ok (.lastore, 1) := by decide +kernel
theorem dX5_load_90 : decode cX5_load 90 = .ok (.return_, 1) := by decide +kernel
abbrev mX5_loadSmall : ks_M := (RX5, cX5_loadSmall, 3, none, "loadSmall")
theorem dX5_loadSmall_0 : decode cX5_loadSmall 0 = .ok (.aload_n 0, 1) := by decide +kernel
theorem dX5_loadSmall_1 : decode cX5_loadSmall 1 = .ok (.getfield 11, 3) := by decide +kernel
theorem dX5_loadSmall_4 : decode cX5_loadSmall 4 = .ok (.iload_n 1, 1) := by decide +kernel
theorem dX5_loadSmall_5 : decode cX5_loadSmall 5 = .ok (.iload_n 1, 1) := by decide +kernel
theorem dX5_loadSmall_6 : decode cX5_loadSmall 6 = .ok (.bipush 9, 2) := by decide +kernel
theorem dX5_loadSmall_8 : decode cX5_loadSmall 8 = .ok (.iadd, 1) := by decide +kernel
theorem dX5_loadSmall_9 : decode cX5_loadSmall 9 = .ok (.lconst 0, 1) := by decide +kernel
theorem dX5_loadSmall_10 : decode cX5_loadSmall 10 = .ok (.invokestatic 41, 3) := by decide +kernel
theorem dX5_loadSmall_13 : decode cX5_loadSmall 13 = .ok (.aload_n 0, 1) := by decide +kernel
theorem dX5_loadSmall_14 : decode cX5_loadSmall 14 = .ok (.getfield 11, 3) := by decide +kernel
theorem dX5_loadSmall_17 : decode cX5_loadSmall 17 = .ok (.iload_n 1, 1) := by decide +kernel
theorem dX5_loadSmall_18 : decode cX5_loadSmall 18 = .ok (.iload_n 2, 1) := by decide +kernel
theorem dX5_loadSmall_19 : decode cX5_loadSmall 19 = .ok (.i2l, 1) := by decide +kernel
theorem dX5_loadSmall_20 : decode cX5_loadSmall 20 = .ok (.ldc2_w 37, 3) := by decide +kernel
theorem dX5_loadSmall_23 : decode cX5_loadSmall 23 = .ok (.land, 1) := by decide +kernel
theorem dX5_loadSmall_24 : decode cX5_loadSmall 24 = .ok (.lastore, 1) := by decide +kernel
theorem dX5_loadSmall_25 : decode cX5_loadSmall 25 = .ok (.aload_n 0, 1) := by decide +kernel
theorem dX5_loadSmall_26 : decode cX5_loadSmall 26 = .ok (.getfield 11, 3) := by decide +kernel
theorem dX5_loadSmall_29 : decode cX5_loadSmall 29 = .ok (.iload_n 1, 1) := by decide +kernel
theorem dX5_loadSmall_30 : decode cX5_loadSmall 30 = .ok (.iconst 1, 1) := by decide +kernel
theorem dX5_loadSmall_31 : decode cX5_loadSmall 31 = .ok (.iadd, 1) := by decide +kernel
theorem dX5_loadSmall_32 : decode cX5_loadSmall 32 = .ok (.iload_n 2, 1) := by decide +kernel
theorem dX5_loadSmall_33 : decode cX5_loadSmall 33 = .ok (.bipush 29, 2) := by decide +kernel
theorem dX5_loadSmall_35 : decode cX5_loadSmall 35 = .ok (.iushr, 1) := by decide +kernel
theorem dX5_loadSmall_36 : decode cX5_loadSmall 36 = .ok (.i2l, 1) := by decide +kernel
theorem dX5_loadSmall_37 : decode cX5_loadSmall 37 = .ok (.lastore, 1) := by decide +kernel
theorem dX5_loadSmall_38 : decode cX5_loadSmall 38 = .ok (.return_, 1) := by decide +kernel
abbrev mX5_store : ks_M := (RX5, cX5_store, 5, none, "store")
theorem dX5_store_0 : decode cX5_store 0 = .ok (.iconst 0, 1) := by decide +kernel
theorem dX5_store_1 : decode cX5_store 1 = .ok (.istore 4, 2) := by decide +kernel
theorem dX5_store_3 : decode cX5_store 3 = .ok (.iload 4, 2) := by decide +kernel
theorem dX5_store_5 : decode cX5_store 5 = .ok (.bipush 32, 2) := by decide +kernel
theorem dX5_store_7 : decode cX5_store 7 = .ok (.if_icmp .ge 30, 3) := by decide +kernel
theorem dX5_store_10 : decode cX5_store 10 = .ok (.aload_n 2, 1) := by decide +kernel
theorem dX5_store_11 : decode cX5_store 11 = .ok (.iload_n 3, 1) := by decide +kernel
theorem dX5_store_12 : decode cX5_store 12 = .ok (.bipush 31, 2) := by decide +kernel
theorem dX5_store_14 : decode cX5_store 14 = .ok (.iadd, 1) := by decide +kernel
theorem dX5_store_15 : decode cX5_store 15 = .ok (.iload 4, 2) := by decide +kernel
theorem dX5_store_17 : decode cX5_store 17 = .ok (.isub, 1) := by decide +kernel
theorem dX5_store_18 : decode cX5_store 18 = .ok (.aload_n 0, 1) := by decide +kernel
theorem dX5_store_19 : decode cX5_store 19 = .ok (.iload_n 1, 1) := by decide +kernel
theorem dX5_store_20 : decode cX5_store 20 = .ok (.bipush 8, 2) := by decide +kernel
theorem dX5_store_22 : decode cX5_store 22 = .ok (.iload 4, 2) := by decide +kernel
theorem dX5_store_24 : decode cX5_store 24 = .ok (.imul, 1) := by decide +kernel
theorem dX5_store_25 : decode cX5_store 25 = .ok (.invokevirtual 47, 3) := by decide +kernel
theorem dX5_store_28 : decode cX5_store 28 = .ok (.l2i, 1) := by decide +kernel
theorem dX5_store_29 : decode cX5_store 29 = .ok (.i2b, 1) := by decide +kernel
theorem dX5_store_30 : decode cX5_store 30 = .ok (.bastore, 1) := by decide +kernel
theorem dX5_store_31 : decode cX5_store 31 = .ok (.iinc 4 1, 3) := by decide +kernel
theorem dX5_store_34 : decode cX5_store 34 = .ok (.goto (-31), 3) := by decide +kernel
theorem dX5_store_37 : decode cX5_store 37 = .ok (.return_, 1) := by decide +kernel
abbrev mX5_bitsAt : ks_M := (RX5, cX5_bitsAt, 7, (some .long), "bitsAt")
theorem dX5_bitsAt_0 : decode cX5_bitsAt 0 = .ok (.iload_n 2, 1) := by decide +kernel
theorem dX5_bitsAt_1 : decode cX5_bitsAt 1 = .ok (.bipush 29, 2) := by decide +kernel
theorem dX5_bitsAt_3 : decode cX5_bitsAt 3 = .ok (.idiv, 1) := by decide +kernel
theorem dX5_bitsAt_4 : decode cX5_bitsAt 4 = .ok (.istore_n 3, 1) := by decide +kernel
theorem dX5_bitsAt_5 : decode cX5_bitsAt 5 = .ok (.iload_n 2, 1) := by decide +kernel
theorem dX5_bitsAt_6 : decode cX5_bitsAt 6 = .ok (.bipush 29, 2) := by decide +kernel
theorem dX5_bitsAt_8 : decode cX5_bitsAt 8 = .ok (.irem, 1) := by decide +kernel
theorem dX5_bitsAt_9 : decode cX5_bitsAt 9 = .ok (.istore 4, 2) := by decide +kernel
theorem dX5_bitsAt_11 : decode cX5_bitsAt 11 = .ok (.aload_n 0, 1) := by decide +kernel
theorem dX5_bitsAt_12 : decode cX5_bitsAt 12 = .ok (.getfield 11, 3) := by decide +kernel
theorem dX5_bitsAt_15 : decode cX5_bitsAt 15 = .ok (.iload_n 1, 1) := by decide +kernel
theorem dX5_bitsAt_16 : decode cX5_bitsAt 16 = .ok (.iload_n 3, 1) := by decide +kernel
theorem dX5_bitsAt_17 : decode cX5_bitsAt 17 = .ok (.iadd, 1) := by decide +kernel
theorem dX5_bitsAt_18 : decode cX5_bitsAt 18 = .ok (.laload, 1) := by decide +kernel
theorem dX5_bitsAt_19 : decode cX5_bitsAt 19 = .ok (.iload 4, 2) := by decide +kernel
theorem dX5_bitsAt_21 : decode cX5_bitsAt 21 = .ok (.lushr, 1) := by decide +kernel
theorem dX5_bitsAt_22 : decode cX5_bitsAt 22 = .ok (.lstore 5, 2) := by decide +kernel
theorem dX5_bitsAt_24 : decode cX5_bitsAt 24 = .ok (.iload_n 3, 1) := by decide +kernel
theorem dX5_bitsAt_25 : decode cX5_bitsAt 25 = .ok (.bipush 8, 2) := by decide +kernel
theorem dX5_bitsAt_27 : decode cX5_bitsAt 27 = .ok (.if_icmp .ge 25, 3) := by decide +kernel
theorem dX5_bitsAt_30 : decode cX5_bitsAt 30 = .ok (.lload 5, 2) := by decide +kernel
theorem dX5_bitsAt_32 : decode cX5_bitsAt 32 = .ok (.aload_n 0, 1) := by decide +kernel
theorem dX5_bitsAt_33 : decode cX5_bitsAt 33 = .ok (.getfield 11, 3) := by decide +kernel
theorem dX5_bitsAt_36 : decode cX5_bitsAt 36 = .ok (.iload_n 1, 1) := by decide +kernel
theorem dX5_bitsAt_37 : decode cX5_bitsAt 37 = .ok (.iload_n 3, 1) := by decide +kernel
theorem dX5_bitsAt_38 : decode cX5_bitsAt 38 = .ok (.iadd, 1) := by decide +kernel
theorem dX5_bitsAt_39 : decode cX5_bitsAt 39 = .ok (.iconst 1, 1) := by decide +kernel
theorem dX5_bitsAt_40 : decode cX5_bitsAt 40 = .ok (.iadd, 1) := by decide +kernel
theorem dX5_bitsAt_41 : decode cX5_bitsAt 41 = .ok (.laload, 1) := by decide +kernel
theorem dX5_bitsAt_42 : decode cX5_bitsAt 42 = .ok (.bipush 29, 2) := by decide +kernel
theorem dX5_bitsAt_44 : decode cX5_bitsAt 44 = .ok (.iload 4, 2) := by decide +kernel
theorem dX5_bitsAt_46 : decode cX5_bitsAt 46 = .ok (.isub, 1) := by decide +kernel
theorem dX5_bitsAt_47 : decode cX5_bitsAt 47 = .ok (.lshl, 1) := by decide +kernel
theorem dX5_bitsAt_48 : decode cX5_bitsAt 48 = .ok (.lor, 1) := by decide +kernel
theorem dX5_bitsAt_49 : decode cX5_bitsAt 49 = .ok (.goto 5, 3) := by decide +kernel
theorem dX5_bitsAt_52 : decode cX5_bitsAt 52 = .ok (.lload 5, 2) := by decide +kernel
theorem dX5_bitsAt_54 : decode cX5_bitsAt 54 = .ok (.lreturn, 1) := by decide +kernel
abbrev mX5_copy : ks_M := (RX5, cX5_copy, 4, none, "copy")
theorem dX5_copy_0 : decode cX5_copy 0 = .ok (.aload_n 0, 1) := by decide +kernel
theorem dX5_copy_1 : decode cX5_copy 1 = .ok (.getfield 11, 3) := by decide +kernel
theorem dX5_copy_4 : decode cX5_copy 4 = .ok (.iload_n 2, 1) := by decide +kernel
theorem dX5_copy_5 : decode cX5_copy 5 = .ok (.aload_n 0, 1) := by decide +kernel
theorem dX5_copy_6 : decode cX5_copy 6 = .ok (.getfield 11, 3) := by decide +kernel
theorem dX5_copy_9 : decode cX5_copy 9 = .ok (.iload_n 1, 1) := by decide +kernel
theorem dX5_copy_10 : decode cX5_copy 10 = .ok (.bipush 9, 2) := by decide +kernel
theorem dX5_copy_12 : decode cX5_copy 12 = .ok (.iload_n 3, 1) := by decide +kernel
theorem dX5_copy_13 : decode cX5_copy 13 = .ok (.imul, 1) := by decide +kernel
theorem dX5_copy_14 : decode cX5_copy 14 = .ok (.invokestatic 51, 3) := by decide +kernel
theorem dX5_copy_17 : decode cX5_copy 17 = .ok (.return_, 1) := by decide +kernel
abbrev mX5_isZero : ks_M := (RX5, cX5_isZero, 5, (some .boolean), "isZero")
theorem dX5_isZero_0 : decode cX5_isZero 0 = .ok (.lconst 0, 1) := by decide +kernel
theorem dX5_isZero_1 : decode cX5_isZero 1 = .ok (.lstore_n 2, 1) := by decide +kernel
theorem dX5_isZero_2 : decode cX5_isZero 2 = .ok (.iconst 0, 1) := by decide +kernel
theorem dX5_isZero_3 : decode cX5_isZero 3 = .ok (.istore 4, 2) := by decide +kernel
theorem dX5_isZero_5 : decode cX5_isZero 5 = .ok (.iload 4, 2) := by decide +kernel
theorem dX5_isZero_7 : decode cX5_isZero 7 = .ok (.bipush 9, 2) := by decide +kernel
theorem dX5_isZero_9 : decode cX5_isZero 9 = .ok (.if_icmp .ge 21, 3) := by decide +kernel
theorem dX5_isZero_12 : decode cX5_isZero 12 = .ok (.lload_n 2, 1) := by decide +kernel
theorem dX5_isZero_13 : decode cX5_isZero 13 = .ok (.aload_n 0, 1) := by decide +kernel
theorem dX5_isZero_14 : decode cX5_isZero 14 = .ok (.getfield 11, 3) := by decide +kernel
theorem dX5_isZero_17 : decode cX5_isZero 17 = .ok (.iload_n 1, 1) := by decide +kernel
theorem dX5_isZero_18 : decode cX5_isZero 18 = .ok (.iload 4, 2) := by decide +kernel
theorem dX5_isZero_20 : decode cX5_isZero 20 = .ok (.iadd, 1) := by decide +kernel
theorem dX5_isZero_21 : decode cX5_isZero 21 = .ok (.laload, 1) := by decide +kernel
theorem dX5_isZero_22 : decode cX5_isZero 22 = .ok (.lor, 1) := by decide +kernel
theorem dX5_isZero_23 : decode cX5_isZero 23 = .ok (.lstore_n 2, 1) := by decide +kernel
theorem dX5_isZero_24 : decode cX5_isZero 24 = .ok (.iinc 4 1, 3) := by decide +kernel
theorem dX5_isZero_27 : decode cX5_isZero 27 = .ok (.goto (-22), 3) := by decide +kernel
theorem dX5_isZero_30 : decode cX5_isZero 30 = .ok (.lload_n 2, 1) := by decide +kernel
theorem dX5_isZero_31 : decode cX5_isZero 31 = .ok (.lconst 0, 1) := by decide +kernel
theorem dX5_isZero_32 : decode cX5_isZero 32 = .ok (.lcmp, 1) := by decide +kernel
theorem dX5_isZero_33 : decode cX5_isZero 33 = .ok (.ifCond .ne 7, 3) := by decide +kernel
theorem dX5_isZero_36 : decode cX5_isZero 36 = .ok (.iconst 1, 1) := by decide +kernel
theorem dX5_isZero_37 : decode cX5_isZero 37 = .ok (.goto 4, 3) := by decide +kernel
theorem dX5_isZero_40 : decode cX5_isZero 40 = .ok (.iconst 0, 1) := by decide +kernel
theorem dX5_isZero_41 : decode cX5_isZero 41 = .ok (.ireturn, 1) := by decide +kernel
abbrev mX5_isSame : ks_M := (RX5, cX5_isSame, 6, (some .boolean), "isSame")
theorem dX5_isSame_0 : decode cX5_isSame 0 = .ok (.lconst 0, 1) := by decide +kernel
theorem dX5_isSame_1 : decode cX5_isSame 1 = .ok (.lstore_n 3, 1) := by decide +kernel
theorem dX5_isSame_2 : decode cX5_isSame 2 = .ok (.iconst 0, 1) := by decide +kernel
theorem dX5_isSame_3 : decode cX5_isSame 3 = .ok (.istore 5, 2) := by decide +kernel
theorem dX5_isSame_5 : decode cX5_isSame 5 = .ok (.iload 5, 2) := by decide +kernel
theorem dX5_isSame_7 : decode cX5_isSame 7 = .ok (.bipush 9, 2) := by decide +kernel
theorem dX5_isSame_9 : decode cX5_isSame 9 = .ok (.if_icmp .ge 31, 3) := by decide +kernel
theorem dX5_isSame_12 : decode cX5_isSame 12 = .ok (.lload_n 3, 1) := by decide +kernel
theorem dX5_isSame_13 : decode cX5_isSame 13 = .ok (.aload_n 0, 1) := by decide +kernel
theorem dX5_isSame_14 : decode cX5_isSame 14 = .ok (.getfield 11, 3) := by decide +kernel
theorem dX5_isSame_17 : decode cX5_isSame 17 = .ok (.iload_n 1, 1) := by decide +kernel
theorem dX5_isSame_18 : decode cX5_isSame 18 = .ok (.iload 5, 2) := by decide +kernel
theorem dX5_isSame_20 : decode cX5_isSame 20 = .ok (.iadd, 1) := by decide +kernel
theorem dX5_isSame_21 : decode cX5_isSame 21 = .ok (.laload, 1) := by decide +kernel
theorem dX5_isSame_22 : decode cX5_isSame 22 = .ok (.aload_n 0, 1) := by decide +kernel
theorem dX5_isSame_23 : decode cX5_isSame 23 = .ok (.getfield 11, 3) := by decide +kernel
theorem dX5_isSame_26 : decode cX5_isSame 26 = .ok (.iload_n 2, 1) := by decide +kernel
theorem dX5_isSame_27 : decode cX5_isSame 27 = .ok (.iload 5, 2) := by decide +kernel
theorem dX5_isSame_29 : decode cX5_isSame 29 = .ok (.iadd, 1) := by decide +kernel
theorem dX5_isSame_30 : decode cX5_isSame 30 = .ok (.laload, 1) := by decide +kernel
theorem dX5_isSame_31 : decode cX5_isSame 31 = .ok (.lxor, 1) := by decide +kernel
theorem dX5_isSame_32 : decode cX5_isSame 32 = .ok (.lor, 1) := by decide +kernel
theorem dX5_isSame_33 : decode cX5_isSame 33 = .ok (.lstore_n 3, 1) := by decide +kernel
theorem dX5_isSame_34 : decode cX5_isSame 34 = .ok (.iinc 5 1, 3) := by decide +kernel
theorem dX5_isSame_37 : decode cX5_isSame 37 = .ok (.goto (-32), 3) := by decide +kernel
theorem dX5_isSame_40 : decode cX5_isSame 40 = .ok (.lload_n 3, 1) := by decide +kernel
theorem dX5_isSame_41 : decode cX5_isSame 41 = .ok (.lconst 0, 1) := by decide +kernel
theorem dX5_isSame_42 : decode cX5_isSame 42 = .ok (.lcmp, 1) := by decide +kernel
theorem dX5_isSame_43 : decode cX5_isSame 43 = .ok (.ifCond .ne 7, 3) := by decide +kernel
theorem dX5_isSame_46 : decode cX5_isSame 46 = .ok (.iconst 1, 1) := by decide +kernel
theorem dX5_isSame_47 : decode cX5_isSame 47 = .ok (.goto 4, 3) := by decide +kernel
theorem dX5_isSame_50 : decode cX5_isSame 50 = .ok (.iconst 0, 1) := by decide +kernel
theorem dX5_isSame_51 : decode cX5_isSame 51 = .ok (.ireturn, 1) := by decide +kernel
abbrev mX5_isBelow : ks_M := (RX5, cX5_isBelow, 4, (some .boolean), "isBelow")
theorem dX5_isBelow_0 : decode cX5_isBelow 0 = .ok (.bipush 8, 2) := by decide +kernel
theorem dX5_isBelow_2 : decode cX5_isBelow 2 = .ok (.istore_n 3, 1) := by decide +kernel
theorem dX5_isBelow_3 : decode cX5_isBelow 3 = .ok (.iload_n 3, 1) := by decide +kernel
theorem dX5_isBelow_4 : decode cX5_isBelow 4 = .ok (.ifCond .le 55, 3) := by decide +kernel
theorem dX5_isBelow_7 : decode cX5_isBelow 7 = .ok (.aload_n 0, 1) := by decide +kernel
theorem dX5_isBelow_8 : decode cX5_isBelow 8 = .ok (.getfield 11, 3) := by decide +kernel
theorem dX5_isBelow_11 : decode cX5_isBelow 11 = .ok (.iload_n 1, 1) := by decide +kernel
theorem dX5_isBelow_12 : decode cX5_isBelow 12 = .ok (.iload_n 3, 1) := by decide +kernel
theorem dX5_isBelow_13 : decode cX5_isBelow 13 = .ok (.iadd, 1) := by decide +kernel
theorem dX5_isBelow_14 : decode cX5_isBelow 14 = .ok (.laload, 1) := by decide +kernel
theorem dX5_isBelow_15 : decode cX5_isBelow 15 = .ok (.aload_n 0, 1) := by decide +kernel
theorem dX5_isBelow_16 : decode cX5_isBelow 16 = .ok (.getfield 11, 3) := by decide +kernel
theorem dX5_isBelow_19 : decode cX5_isBelow 19 = .ok (.iload_n 2, 1) := by decide +kernel
theorem dX5_isBelow_20 : decode cX5_isBelow 20 = .ok (.iload_n 3, 1) := by decide +kernel
theorem dX5_isBelow_21 : decode cX5_isBelow 21 = .ok (.iadd, 1) := by decide +kernel
theorem dX5_isBelow_22 : decode cX5_isBelow 22 = .ok (.laload, 1) := by decide +kernel
theorem dX5_isBelow_23 : decode cX5_isBelow 23 = .ok (.lcmp, 1) := by decide +kernel
theorem dX5_isBelow_24 : decode cX5_isBelow 24 = .ok (.ifCond .eq 29, 3) := by decide +kernel
theorem dX5_isBelow_27 : decode cX5_isBelow 27 = .ok (.aload_n 0, 1) := by decide +kernel
theorem dX5_isBelow_28 : decode cX5_isBelow 28 = .ok (.getfield 11, 3) := by decide +kernel
theorem dX5_isBelow_31 : decode cX5_isBelow 31 = .ok (.iload_n 1, 1) := by decide +kernel
theorem dX5_isBelow_32 : decode cX5_isBelow 32 = .ok (.iload_n 3, 1) := by decide +kernel
theorem dX5_isBelow_33 : decode cX5_isBelow 33 = .ok (.iadd, 1) := by decide +kernel
theorem dX5_isBelow_34 : decode cX5_isBelow 34 = .ok (.laload, 1) := by decide +kernel
theorem dX5_isBelow_35 : decode cX5_isBelow 35 = .ok (.aload_n 0, 1) := by decide +kernel
theorem dX5_isBelow_36 : decode cX5_isBelow 36 = .ok (.getfield 11, 3) := by decide +kernel
theorem dX5_isBelow_39 : decode cX5_isBelow 39 = .ok (.iload_n 2, 1) := by decide +kernel
theorem dX5_isBelow_40 : decode cX5_isBelow 40 = .ok (.iload_n 3, 1) := by decide +kernel
theorem dX5_isBelow_41 : decode cX5_isBelow 41 = .ok (.iadd, 1) := by decide +kernel
theorem dX5_isBelow_42 : decode cX5_isBelow 42 = .ok (.laload, 1) := by decide +kernel
theorem dX5_isBelow_43 : decode cX5_isBelow 43 = .ok (.lcmp, 1) := by decide +kernel
theorem dX5_isBelow_44 : decode cX5_isBelow 44 = .ok (.ifCond .ge 7, 3) := by decide +kernel
theorem dX5_isBelow_47 : decode cX5_isBelow 47 = .ok (.iconst 1, 1) := by decide +kernel
theorem dX5_isBelow_48 : decode cX5_isBelow 48 = .ok (.goto 4, 3) := by decide +kernel
theorem dX5_isBelow_51 : decode cX5_isBelow 51 = .ok (.iconst 0, 1) := by decide +kernel
theorem dX5_isBelow_52 : decode cX5_isBelow 52 = .ok (.ireturn, 1) := by decide +kernel
theorem dX5_isBelow_53 : decode cX5_isBelow 53 = .ok (.iinc 3 (-1), 3) := by decide +kernel
theorem dX5_isBelow_56 : decode cX5_isBelow 56 = .ok (.goto (-53), 3) := by decide +kernel
theorem dX5_isBelow_59 : decode cX5_isBelow 59 = .ok (.aload_n 0, 1) := by decide +kernel
theorem dX5_isBelow_60 : decode cX5_isBelow 60 = .ok (.getfield 11, 3) := by decide +kernel
theorem dX5_isBelow_63 : decode cX5_isBelow 63 = .ok (.iload_n 1, 1) := by decide +kernel
theorem dX5_isBelow_64 : decode cX5_isBelow 64 = .ok (.laload, 1) := by decide +kernel
theorem dX5_isBelow_65 : decode cX5_isBelow 65 = .ok (.aload_n 0, 1) := by decide +kernel
theorem dX5_isBelow_66 : decode cX5_isBelow 66 = .ok (.getfield 11, 3) := by decide +kernel
theorem dX5_isBelow_69 : decode cX5_isBelow 69 = .ok (.iload_n 2, 1) := by decide +kernel
theorem dX5_isBelow_70 : decode cX5_isBelow 70 = .ok (.laload, 1) := by decide +kernel
theorem dX5_isBelow_71 : decode cX5_isBelow 71 = .ok (.lcmp, 1) := by decide +kernel
theorem dX5_isBelow_72 : decode cX5_isBelow 72 = .ok (.ifCond .ge 7, 3) := by decide +kernel
theorem dX5_isBelow_75 : decode cX5_isBelow 75 = .ok (.iconst 1, 1) := by decide +kernel
theorem dX5_isBelow_76 : decode cX5_isBelow 76 = .ok (.goto 4, 3) := by decide +kernel
theorem dX5_isBelow_79 : decode cX5_isBelow 79 = .ok (.iconst 0, 1) := by decide +kernel
theorem dX5_isBelow_80 : decode cX5_isBelow 80 = .ok (.ireturn, 1) := by decide +kernel
abbrev mX5_reduce : ks_M := (RX5, cX5_reduce, 2, none, "reduce")
theorem dX5_reduce_0 : decode cX5_reduce 0 = .ok (.aload_n 0, 1) := by decide +kernel
theorem dX5_reduce_1 : decode cX5_reduce 1 = .ok (.iload_n 1, 1) := by decide +kernel
theorem dX5_reduce_2 : decode cX5_reduce 2 = .ok (.aload_n 0, 1) := by decide +kernel
theorem dX5_reduce_3 : decode cX5_reduce 3 = .ok (.getfield 15, 3) := by decide +kernel
theorem dX5_reduce_6 : decode cX5_reduce 6 = .ok (.invokevirtual 57, 3) := by decide +kernel
theorem dX5_reduce_9 : decode cX5_reduce 9 = .ok (.ifCond .ne 13, 3) := by decide +kernel
theorem dX5_reduce_12 : decode cX5_reduce 12 = .ok (.aload_n 0, 1) := by decide +kernel
theorem dX5_reduce_13 : decode cX5_reduce 13 = .ok (.iload_n 1, 1) := by decide +kernel
theorem dX5_reduce_14 : decode cX5_reduce 14 = .ok (.iload_n 1, 1) := by decide +kernel
theorem dX5_reduce_15 : decode cX5_reduce 15 = .ok (.aload_n 0, 1) := by decide +kernel
theorem dX5_reduce_16 : decode cX5_reduce 16 = .ok (.getfield 15, 3) := by decide +kernel
theorem dX5_reduce_19 : decode cX5_reduce 19 = .ok (.invokevirtual 61, 3) := by decide +kernel
theorem dX5_reduce_22 : decode cX5_reduce 22 = .ok (.return_, 1) := by decide +kernel
abbrev mX5_add : ks_M := (RX5, cX5_add, 8, none, "add")
theorem dX5_add_0 : decode cX5_add 0 = .ok (.lconst 0, 1) := by decide +kernel
theorem dX5_add_1 : decode cX5_add 1 = .ok (.lstore 4, 2) := by decide +kernel
theorem dX5_add_3 : decode cX5_add 3 = .ok (.iconst 0, 1) := by decide +kernel
theorem dX5_add_4 : decode cX5_add 4 = .ok (.istore 6, 2) := by decide +kernel
theorem dX5_add_6 : decode cX5_add 6 = .ok (.iload 6, 2) := by decide +kernel
theorem dX5_add_8 : decode cX5_add 8 = .ok (.bipush 9, 2) := by decide +kernel
theorem dX5_add_10 : decode cX5_add 10 = .ok (.if_icmp .ge 55, 3) := by decide +kernel
theorem dX5_add_13 : decode cX5_add 13 = .ok (.lload 4, 2) := by decide +kernel
theorem dX5_add_15 : decode cX5_add 15 = .ok (.aload_n 0, 1) := by decide +kernel
theorem dX5_add_16 : decode cX5_add 16 = .ok (.getfield 11, 3) := by decide +kernel
theorem dX5_add_19 : decode cX5_add 19 = .ok (.iload_n 2, 1) := by decide +kernel
theorem dX5_add_20 : decode cX5_add 20 = .ok (.iload 6, 2) := by decide +kernel
theorem dX5_add_22 : decode cX5_add 22 = .ok (.iadd, 1) := by decide +kernel
theorem dX5_add_23 : decode cX5_add 23 = .ok (.laload, 1) := by decide +kernel
theorem dX5_add_24 : decode cX5_add 24 = .ok (.aload_n 0, 1) := by decide +kernel
theorem dX5_add_25 : decode cX5_add 25 = .ok (.getfield 11, 3) := by decide +kernel
theorem dX5_add_28 : decode cX5_add 28 = .ok (.iload_n 3, 1) := by decide +kernel
theorem dX5_add_29 : decode cX5_add 29 = .ok (.iload 6, 2) := by decide +kernel
theorem dX5_add_31 : decode cX5_add 31 = .ok (.iadd, 1) := by decide +kernel
theorem dX5_add_32 : decode cX5_add 32 = .ok (.laload, 1) := by decide +kernel
theorem dX5_add_33 : decode cX5_add 33 = .ok (.ladd, 1) := by decide +kernel
theorem dX5_add_34 : decode cX5_add 34 = .ok (.ladd, 1) := by decide +kernel
theorem dX5_add_35 : decode cX5_add 35 = .ok (.lstore 4, 2) := by decide +kernel
theorem dX5_add_37 : decode cX5_add 37 = .ok (.aload_n 0, 1) := by decide +kernel
theorem dX5_add_38 : decode cX5_add 38 = .ok (.getfield 11, 3) := by decide +kernel
theorem dX5_add_41 : decode cX5_add 41 = .ok (.iload_n 1, 1) := by decide +kernel
theorem dX5_add_42 : decode cX5_add 42 = .ok (.iload 6, 2) := by decide +kernel
theorem dX5_add_44 : decode cX5_add 44 = .ok (.iadd, 1) := by decide +kernel
theorem dX5_add_45 : decode cX5_add 45 = .ok (.lload 4, 2) := by decide +kernel
theorem dX5_add_47 : decode cX5_add 47 = .ok (.ldc2_w 37, 3) := by decide +kernel
theorem dX5_add_50 : decode cX5_add 50 = .ok (.land, 1) := by decide +kernel
theorem dX5_add_51 : decode cX5_add 51 = .ok (.lastore, 1) := by decide +kernel
theorem dX5_add_52 : decode cX5_add 52 = .ok (.lload 4, 2) := by decide +kernel
theorem dX5_add_54 : decode cX5_add 54 = .ok (.bipush 29, 2) := by decide +kernel
theorem dX5_add_56 : decode cX5_add 56 = .ok (.lshr, 1) := by decide +kernel
theorem dX5_add_57 : decode cX5_add 57 = .ok (.lstore 4, 2) := by decide +kernel
theorem dX5_add_59 : decode cX5_add 59 = .ok (.iinc 6 1, 3) := by decide +kernel
theorem dX5_add_62 : decode cX5_add 62 = .ok (.goto (-56), 3) := by decide +kernel
theorem dX5_add_65 : decode cX5_add 65 = .ok (.bipush 8, 2) := by decide +kernel
theorem dX5_add_67 : decode cX5_add 67 = .ok (.istore 6, 2) := by decide +kernel
theorem dX5_add_69 : decode cX5_add 69 = .ok (.iload 6, 2) := by decide +kernel
theorem dX5_add_71 : decode cX5_add 71 = .ok (.ifCond .le 34, 3) := by decide +kernel
theorem dX5_add_74 : decode cX5_add 74 = .ok (.aload_n 0, 1) := by decide +kernel
theorem dX5_add_75 : decode cX5_add 75 = .ok (.getfield 11, 3) := by decide +kernel
theorem dX5_add_78 : decode cX5_add 78 = .ok (.iload_n 1, 1) := by decide +kernel
theorem dX5_add_79 : decode cX5_add 79 = .ok (.iload 6, 2) := by decide +kernel
theorem dX5_add_81 : decode cX5_add 81 = .ok (.iadd, 1) := by decide +kernel
theorem dX5_add_82 : decode cX5_add 82 = .ok (.laload, 1) := by decide +kernel
theorem dX5_add_83 : decode cX5_add 83 = .ok (.aload_n 0, 1) := by decide +kernel
theorem dX5_add_84 : decode cX5_add 84 = .ok (.getfield 11, 3) := by decide +kernel
theorem dX5_add_87 : decode cX5_add 87 = .ok (.aload_n 0, 1) := by decide +kernel
theorem dX5_add_88 : decode cX5_add 88 = .ok (.getfield 15, 3) := by decide +kernel
theorem dX5_add_91 : decode cX5_add 91 = .ok (.iload 6, 2) := by decide +kernel
theorem dX5_add_93 : decode cX5_add 93 = .ok (.iadd, 1) := by decide +kernel
theorem dX5_add_94 : decode cX5_add 94 = .ok (.laload, 1) := by decide +kernel
theorem dX5_add_95 : decode cX5_add 95 = .ok (.lcmp, 1) := by decide +kernel
theorem dX5_add_96 : decode cX5_add 96 = .ok (.ifCond .ne 9, 3) := by decide +kernel
theorem dX5_add_99 : decode cX5_add 99 = .ok (.iinc 6 (-1), 3) := by decide +kernel
theorem dX5_add_102 : decode cX5_add 102 = .ok (.goto (-33), 3) := by decide +kernel
theorem dX5_add_105 : decode cX5_add 105 = .ok (.aload_n 0, 1) := by decide +kernel
theorem dX5_add_106 : decode cX5_add 106 = .ok (.getfield 11, 3) := by decide +kernel
theorem dX5_add_109 : decode cX5_add 109 = .ok (.iload_n 1, 1) := by decide +kernel
theorem dX5_add_110 : decode cX5_add 110 = .ok (.iload 6, 2) := by decide +kernel
theorem dX5_add_112 : decode cX5_add 112 = .ok (.iadd, 1) := by decide +kernel
theorem dX5_add_113 : decode cX5_add 113 = .ok (.laload, 1) := by decide +kernel
theorem dX5_add_114 : decode cX5_add 114 = .ok (.aload_n 0, 1) := by decide +kernel
theorem dX5_add_115 : decode cX5_add 115 = .ok (.getfield 11, 3) := by decide +kernel
theorem dX5_add_118 : decode cX5_add 118 = .ok (.aload_n 0, 1) := by decide +kernel
theorem dX5_add_119 : decode cX5_add 119 = .ok (.getfield 15, 3) := by decide +kernel
theorem dX5_add_122 : decode cX5_add 122 = .ok (.iload 6, 2) := by decide +kernel
theorem dX5_add_124 : decode cX5_add 124 = .ok (.iadd, 1) := by decide +kernel
theorem dX5_add_125 : decode cX5_add 125 = .ok (.laload, 1) := by decide +kernel
theorem dX5_add_126 : decode cX5_add 126 = .ok (.lcmp, 1) := by decide +kernel
theorem dX5_add_127 : decode cX5_add 127 = .ok (.ifCond .lt 71, 3) := by decide +kernel
theorem dX5_add_130 : decode cX5_add 130 = .ok (.lconst 0, 1) := by decide +kernel
theorem dX5_add_131 : decode cX5_add 131 = .ok (.lstore 4, 2) := by decide +kernel
theorem dX5_add_133 : decode cX5_add 133 = .ok (.iconst 0, 1) := by decide +kernel
theorem dX5_add_134 : decode cX5_add 134 = .ok (.istore 7, 2) := by decide +kernel
theorem dX5_add_136 : decode cX5_add 136 = .ok (.iload 7, 2) := by decide +kernel
theorem dX5_add_138 : decode cX5_add 138 = .ok (.bipush 9, 2) := by decide +kernel
theorem dX5_add_140 : decode cX5_add 140 = .ok (.if_icmp .ge 58, 3) := by decide +kernel
theorem dX5_add_143 : decode cX5_add 143 = .ok (.lload 4, 2) := by decide +kernel
theorem dX5_add_145 : decode cX5_add 145 = .ok (.aload_n 0, 1) := by decide +kernel
theorem dX5_add_146 : decode cX5_add 146 = .ok (.getfield 11, 3) := by decide +kernel
theorem dX5_add_149 : decode cX5_add 149 = .ok (.iload_n 1, 1) := by decide +kernel
theorem dX5_add_150 : decode cX5_add 150 = .ok (.iload 7, 2) := by decide +kernel
theorem dX5_add_152 : decode cX5_add 152 = .ok (.iadd, 1) := by decide +kernel
theorem dX5_add_153 : decode cX5_add 153 = .ok (.laload, 1) := by decide +kernel
theorem dX5_add_154 : decode cX5_add 154 = .ok (.aload_n 0, 1) := by decide +kernel
theorem dX5_add_155 : decode cX5_add 155 = .ok (.getfield 11, 3) := by decide +kernel
theorem dX5_add_158 : decode cX5_add 158 = .ok (.aload_n 0, 1) := by decide +kernel
theorem dX5_add_159 : decode cX5_add 159 = .ok (.getfield 15, 3) := by decide +kernel
theorem dX5_add_162 : decode cX5_add 162 = .ok (.iload 7, 2) := by decide +kernel
theorem dX5_add_164 : decode cX5_add 164 = .ok (.iadd, 1) := by decide +kernel
theorem dX5_add_165 : decode cX5_add 165 = .ok (.laload, 1) := by decide +kernel
theorem dX5_add_166 : decode cX5_add 166 = .ok (.lsub, 1) := by decide +kernel
theorem dX5_add_167 : decode cX5_add 167 = .ok (.ladd, 1) := by decide +kernel
theorem dX5_add_168 : decode cX5_add 168 = .ok (.lstore 4, 2) := by decide +kernel
theorem dX5_add_170 : decode cX5_add 170 = .ok (.aload_n 0, 1) := by decide +kernel
theorem dX5_add_171 : decode cX5_add 171 = .ok (.getfield 11, 3) := by decide +kernel
theorem dX5_add_174 : decode cX5_add 174 = .ok (.iload_n 1, 1) := by decide +kernel
theorem dX5_add_175 : decode cX5_add 175 = .ok (.iload 7, 2) := by decide +kernel
theorem dX5_add_177 : decode cX5_add 177 = .ok (.iadd, 1) := by decide +kernel
theorem dX5_add_178 : decode cX5_add 178 = .ok (.lload 4, 2) := by decide +kernel
theorem dX5_add_180 : decode cX5_add 180 = .ok (.ldc2_w 37, 3) := by decide +kernel
theorem dX5_add_183 : decode cX5_add 183 = .ok (.land, 1) := by decide +kernel
theorem dX5_add_184 : decode cX5_add 184 = .ok (.lastore, 1) := by decide +kernel
theorem dX5_add_185 : decode cX5_add 185 = .ok (.lload 4, 2) := by decide +kernel
theorem dX5_add_187 : decode cX5_add 187 = .ok (.bipush 29, 2) := by decide +kernel
theorem dX5_add_189 : decode cX5_add 189 = .ok (.lshr, 1) := by decide +kernel
theorem dX5_add_190 : decode cX5_add 190 = .ok (.lstore 4, 2) := by decide +kernel
theorem dX5_add_192 : decode cX5_add 192 = .ok (.iinc 7 1, 3) := by decide +kernel
theorem dX5_add_195 : decode cX5_add 195 = .ok (.goto (-59), 3) := by decide +kernel
theorem dX5_add_198 : decode cX5_add 198 = .ok (.return_, 1) := by decide +kernel
abbrev mX5_subtract : ks_M := (RX5, cX5_subtract, 7, none, "subtract")
theorem dX5_subtract_0 : decode cX5_subtract 0 = .ok (.lconst 0, 1) := by decide +kernel
theorem dX5_subtract_1 : decode cX5_subtract 1 = .ok (.lstore 4, 2) := by decide +kernel
theorem dX5_subtract_3 : decode cX5_subtract 3 = .ok (.iconst 0, 1) := by decide +kernel
theorem dX5_subtract_4 : decode cX5_subtract 4 = .ok (.istore 6, 2) := by decide +kernel
theorem dX5_subtract_6 : decode cX5_subtract 6 = .ok (.iload 6, 2) := by decide +kernel
theorem dX5_subtract_8 : decode cX5_subtract 8 = .ok (.bipush 9, 2) := by decide +kernel
theorem dX5_subtract_10 : decode cX5_subtract 10 = .ok (.if_icmp .ge 55, 3) := by decide +kernel
theorem dX5_subtract_13 : decode cX5_subtract 13 = .ok (.lload 4, 2) := by decide +kernel
theorem dX5_subtract_15 : decode cX5_subtract 15 = .ok (.aload_n 0, 1) := by decide +kernel
theorem dX5_subtract_16 : decode cX5_subtract 16 = .ok (.getfield 11, 3) := by decide +kernel
theorem dX5_subtract_19 : decode cX5_subtract 19 = .ok (.iload_n 2, 1) := by decide +kernel
theorem dX5_subtract_20 : decode cX5_subtract 20 = .ok (.iload 6, 2) := by decide +kernel
theorem dX5_subtract_22 : decode cX5_subtract 22 = .ok (.iadd, 1) := by decide +kernel
theorem dX5_subtract_23 : decode cX5_subtract 23 = .ok (.laload, 1) := by decide +kernel
theorem dX5_subtract_24 : decode cX5_subtract 24 = .ok (.aload_n 0, 1) := by decide +kernel
theorem dX5_subtract_25 : decode cX5_subtract 25 = .ok (.getfield 11, 3) := by decide +kernel
theorem dX5_subtract_28 : decode cX5_subtract 28 = .ok (.iload_n 3, 1) := by decide +kernel
theorem dX5_subtract_29 : decode cX5_subtract 29 = .ok (.iload 6, 2) := by decide +kernel
theorem dX5_subtract_31 : decode cX5_subtract 31 = .ok (.iadd, 1) := by decide +kernel
theorem dX5_subtract_32 : decode cX5_subtract 32 = .ok (.laload, 1) := by decide +kernel
theorem dX5_subtract_33 : decode cX5_subtract 33 = .ok (.lsub, 1) := by decide +kernel
theorem dX5_subtract_34 : decode cX5_subtract 34 = .ok (.ladd, 1) := by decide +kernel
theorem dX5_subtract_35 : decode cX5_subtract 35 = .ok (.lstore 4, 2) := by decide +kernel
theorem dX5_subtract_37 : decode cX5_subtract 37 = .ok (.aload_n 0, 1) := by decide +kernel
theorem dX5_subtract_38 : decode cX5_subtract 38 = .ok (.getfield 11, 3) := by decide +kernel
theorem dX5_subtract_41 : decode cX5_subtract 41 = .ok (.iload_n 1, 1) := by decide +kernel
theorem dX5_subtract_42 : decode cX5_subtract 42 = .ok (.iload 6, 2) := by decide +kernel
theorem dX5_subtract_44 : decode cX5_subtract 44 = .ok (.iadd, 1) := by decide +kernel
theorem dX5_subtract_45 : decode cX5_subtract 45 = .ok (.lload 4, 2) := by decide +kernel
theorem dX5_subtract_47 : decode cX5_subtract 47 = .ok (.ldc2_w 37, 3) := by decide +kernel
theorem dX5_subtract_50 : decode cX5_subtract 50 = .ok (.land, 1) := by decide +kernel
theorem dX5_subtract_51 : decode cX5_subtract 51 = .ok (.lastore, 1) := by decide +kernel
theorem dX5_subtract_52 : decode cX5_subtract 52 = .ok (.lload 4, 2) := by decide +kernel
theorem dX5_subtract_54 : decode cX5_subtract 54 = .ok (.bipush 29, 2) := by decide +kernel
theorem dX5_subtract_56 : decode cX5_subtract 56 = .ok (.lshr, 1) := by decide +kernel
theorem dX5_subtract_57 : decode cX5_subtract 57 = .ok (.lstore 4, 2) := by decide +kernel
theorem dX5_subtract_59 : decode cX5_subtract 59 = .ok (.iinc 6 1, 3) := by decide +kernel
theorem dX5_subtract_62 : decode cX5_subtract 62 = .ok (.goto (-56), 3) := by decide +kernel
theorem dX5_subtract_65 : decode cX5_subtract 65 = .ok (.lload 4, 2) := by decide +kernel
theorem dX5_subtract_67 : decode cX5_subtract 67 = .ok (.lconst 0, 1) := by decide +kernel
theorem dX5_subtract_68 : decode cX5_subtract 68 = .ok (.lcmp, 1) := by decide +kernel
theorem dX5_subtract_69 : decode cX5_subtract 69 = .ok (.ifCond .ge 71, 3) := by decide +kernel
theorem dX5_subtract_72 : decode cX5_subtract 72 = .ok (.lconst 0, 1) := by decide +kernel
theorem dX5_subtract_73 : decode cX5_subtract 73 = .ok (.lstore 4, 2) := by decide +kernel
theorem dX5_subtract_75 : decode cX5_subtract 75 = .ok (.iconst 0, 1) := by decide +kernel
theorem dX5_subtract_76 : decode cX5_subtract 76 = .ok (.istore 6, 2) := by decide +kernel
theorem dX5_subtract_78 : decode cX5_subtract 78 = .ok (.iload 6, 2) := by decide +kernel
theorem dX5_subtract_80 : decode cX5_subtract 80 = .ok (.bipush 9, 2) := by decide +kernel
theorem dX5_subtract_82 : decode cX5_subtract 82 = .ok (.if_icmp .ge 58, 3) := by decide +kernel
theorem dX5_subtract_85 : decode cX5_subtract 85 = .ok (.lload 4, 2) := by decide +kernel
theorem dX5_subtract_87 : decode cX5_subtract 87 = .ok (.aload_n 0, 1) := by decide +kernel
theorem dX5_subtract_88 : decode cX5_subtract 88 = .ok (.getfield 11, 3) := by decide +kernel
theorem dX5_subtract_91 : decode cX5_subtract 91 = .ok (.iload_n 1, 1) := by decide +kernel
theorem dX5_subtract_92 : decode cX5_subtract 92 = .ok (.iload 6, 2) := by decide +kernel
theorem dX5_subtract_94 : decode cX5_subtract 94 = .ok (.iadd, 1) := by decide +kernel
theorem dX5_subtract_95 : decode cX5_subtract 95 = .ok (.laload, 1) := by decide +kernel
theorem dX5_subtract_96 : decode cX5_subtract 96 = .ok (.aload_n 0, 1) := by decide +kernel
theorem dX5_subtract_97 : decode cX5_subtract 97 = .ok (.getfield 11, 3) := by decide +kernel
theorem dX5_subtract_100 : decode cX5_subtract 100 = .ok (.aload_n 0, 1) := by decide +kernel
theorem dX5_subtract_101 : decode cX5_subtract 101 = .ok (.getfield 15, 3) := by decide +kernel
theorem dX5_subtract_104 : decode cX5_subtract 104 = .ok (.iload 6, 2) := by decide +kernel
theorem dX5_subtract_106 : decode cX5_subtract 106 = .ok (.iadd, 1) := by decide +kernel
theorem dX5_subtract_107 : decode cX5_subtract 107 = .ok (.laload, 1) := by decide +kernel
theorem dX5_subtract_108 : decode cX5_subtract 108 = .ok (.ladd, 1) := by decide +kernel
theorem dX5_subtract_109 : decode cX5_subtract 109 = .ok (.ladd, 1) := by decide +kernel
theorem dX5_subtract_110 : decode cX5_subtract 110 = .ok (.lstore 4, 2) := by decide +kernel
theorem dX5_subtract_112 : decode cX5_subtract 112 = .ok (.aload_n 0, 1) := by decide +kernel
theorem dX5_subtract_113 : decode cX5_subtract 113 = .ok (.getfield 11, 3) := by decide +kernel
theorem dX5_subtract_116 : decode cX5_subtract 116 = .ok (.iload_n 1, 1) := by decide +kernel
theorem dX5_subtract_117 : decode cX5_subtract 117 = .ok (.iload 6, 2) := by decide +kernel
theorem dX5_subtract_119 : decode cX5_subtract 119 = .ok (.iadd, 1) := by decide +kernel
theorem dX5_subtract_120 : decode cX5_subtract 120 = .ok (.lload 4, 2) := by decide +kernel
theorem dX5_subtract_122 : decode cX5_subtract 122 = .ok (.ldc2_w 37, 3) := by decide +kernel
theorem dX5_subtract_125 : decode cX5_subtract 125 = .ok (.land, 1) := by decide +kernel
theorem dX5_subtract_126 : decode cX5_subtract 126 = .ok (.lastore, 1) := by decide +kernel
theorem dX5_subtract_127 : decode cX5_subtract 127 = .ok (.lload 4, 2) := by decide +kernel
theorem dX5_subtract_129 : decode cX5_subtract 129 = .ok (.bipush 29, 2) := by decide +kernel
theorem dX5_subtract_131 : decode cX5_subtract 131 = .ok (.lshr, 1) := by decide +kernel
theorem dX5_subtract_132 : decode cX5_subtract 132 = .ok (.lstore 4, 2) := by decide +kernel
theorem dX5_subtract_134 : decode cX5_subtract 134 = .ok (.iinc 6 1, 3) := by decide +kernel
theorem dX5_subtract_137 : decode cX5_subtract 137 = .ok (.goto (-59), 3) := by decide +kernel
theorem dX5_subtract_140 : decode cX5_subtract 140 = .ok (.return_, 1) := by decide +kernel
abbrev mX5_divide : ks_M := (RX5, cX5_divide, 5, none, "divide")
theorem dX5_divide_0 : decode cX5_divide 0 = .ok (.aload_n 0, 1) := by decide +kernel
theorem dX5_divide_1 : decode cX5_divide 1 = .ok (.aload_n 0, 1) := by decide +kernel
theorem dX5_divide_2 : decode cX5_divide 2 = .ok (.getfield 19, 3) := by decide +kernel
theorem dX5_divide_5 : decode cX5_divide 5 = .ok (.iload_n 2, 1) := by decide +kernel
theorem dX5_divide_6 : decode cX5_divide 6 = .ok (.iconst 1, 1) := by decide +kernel
theorem dX5_divide_7 : decode cX5_divide 7 = .ok (.invokevirtual 65, 3) := by decide +kernel
theorem dX5_divide_10 : decode cX5_divide 10 = .ok (.aload_n 0, 1) := by decide +kernel
theorem dX5_divide_11 : decode cX5_divide 11 = .ok (.aload_n 0, 1) := by decide +kernel
theorem dX5_divide_12 : decode cX5_divide 12 = .ok (.getfield 22, 3) := by decide +kernel
theorem dX5_divide_15 : decode cX5_divide 15 = .ok (.iload_n 3, 1) := by decide +kernel
theorem dX5_divide_16 : decode cX5_divide 16 = .ok (.iconst 1, 1) := by decide +kernel
theorem dX5_divide_17 : decode cX5_divide 17 = .ok (.invokevirtual 65, 3) := by decide +kernel
theorem dX5_divide_20 : decode cX5_divide 20 = .ok (.aload_n 0, 1) := by decide +kernel
theorem dX5_divide_21 : decode cX5_divide 21 = .ok (.aload_n 0, 1) := by decide +kernel
theorem dX5_divide_22 : decode cX5_divide 22 = .ok (.getfield 25, 3) := by decide +kernel
theorem dX5_divide_25 : decode cX5_divide 25 = .ok (.iconst 0, 1) := by decide +kernel
theorem dX5_divide_26 : decode cX5_divide 26 = .ok (.invokevirtual 68, 3) := by decide +kernel
theorem dX5_divide_29 : decode cX5_divide 29 = .ok (.aload_n 0, 1) := by decide +kernel
theorem dX5_divide_30 : decode cX5_divide 30 = .ok (.aload_n 0, 1) := by decide +kernel
theorem dX5_divide_31 : decode cX5_divide 31 = .ok (.getfield 28, 3) := by decide +kernel
theorem dX5_divide_34 : decode cX5_divide 34 = .ok (.aload_n 0, 1) := by decide +kernel
theorem dX5_divide_35 : decode cX5_divide 35 = .ok (.getfield 15, 3) := by decide +kernel
theorem dX5_divide_38 : decode cX5_divide 38 = .ok (.iconst 1, 1) := by decide +kernel
theorem dX5_divide_39 : decode cX5_divide 39 = .ok (.invokevirtual 65, 3) := by decide +kernel
theorem dX5_divide_42 : decode cX5_divide 42 = .ok (.iconst 0, 1) := by decide +kernel
theorem dX5_divide_43 : decode cX5_divide 43 = .ok (.istore 4, 2) := by decide +kernel
theorem dX5_divide_45 : decode cX5_divide 45 = .ok (.iload 4, 2) := by decide +kernel
theorem dX5_divide_47 : decode cX5_divide 47 = .ok (.sipush 1100, 3) := by decide +kernel
theorem dX5_divide_50 : decode cX5_divide 50 = .ok (.if_icmp .ge 129, 3) := by decide +kernel
theorem dX5_divide_53 : decode cX5_divide 53 = .ok (.aload_n 0, 1) := by decide +kernel
theorem dX5_divide_54 : decode cX5_divide 54 = .ok (.aload_n 0, 1) := by decide +kernel
theorem dX5_divide_55 : decode cX5_divide 55 = .ok (.getfield 22, 3) := by decide +kernel
theorem dX5_divide_58 : decode cX5_divide 58 = .ok (.invokevirtual 72, 3) := by decide +kernel
theorem dX5_divide_61 : decode cX5_divide 61 = .ok (.ifCond .ne 118, 3) := by decide +kernel
theorem dX5_divide_64 : decode cX5_divide 64 = .ok (.aload_n 0, 1) := by decide +kernel
theorem dX5_divide_65 : decode cX5_divide 65 = .ok (.getfield 11, 3) := by decide +kernel
theorem dX5_divide_68 : decode cX5_divide 68 = .ok (.aload_n 0, 1) := by decide +kernel
theorem dX5_divide_69 : decode cX5_divide 69 = .ok (.getfield 22, 3) := by decide +kernel
theorem dX5_divide_72 : decode cX5_divide 72 = .ok (.laload, 1) := by decide +kernel
theorem dX5_divide_73 : decode cX5_divide 73 = .ok (.lconst 1, 1) := by decide +kernel
theorem dX5_divide_74 : decode cX5_divide 74 = .ok (.land, 1) := by decide +kernel
theorem dX5_divide_75 : decode cX5_divide 75 = .ok (.lconst 0, 1) := by decide +kernel
theorem dX5_divide_76 : decode cX5_divide 76 = .ok (.lcmp, 1) := by decide +kernel
theorem dX5_divide_77 : decode cX5_divide 77 = .ok (.ifCond .ne 22, 3) := by decide +kernel
theorem dX5_divide_80 : decode cX5_divide 80 = .ok (.aload_n 0, 1) := by decide +kernel
theorem dX5_divide_81 : decode cX5_divide 81 = .ok (.aload_n 0, 1) := by decide +kernel
theorem dX5_divide_82 : decode cX5_divide 82 = .ok (.getfield 22, 3) := by decide +kernel
theorem dX5_divide_85 : decode cX5_divide 85 = .ok (.invokevirtual 76, 3) := by decide +kernel
theorem dX5_divide_88 : decode cX5_divide 88 = .ok (.aload_n 0, 1) := by decide +kernel
theorem dX5_divide_89 : decode cX5_divide 89 = .ok (.aload_n 0, 1) := by decide +kernel
theorem dX5_divide_90 : decode cX5_divide 90 = .ok (.getfield 19, 3) := by decide +kernel
theorem dX5_divide_93 : decode cX5_divide 93 = .ok (.invokevirtual 76, 3) := by decide +kernel
theorem dX5_divide_96 : decode cX5_divide 96 = .ok (.goto 77, 3) := by decide +kernel
theorem dX5_divide_99 : decode cX5_divide 99 = .ok (.aload_n 0, 1) := by decide +kernel
theorem dX5_divide_100 : decode cX5_divide 100 = .ok (.aload_n 0, 1) := by decide +kernel
theorem dX5_divide_101 : decode cX5_divide 101 = .ok (.getfield 22, 3) := by decide +kernel
theorem dX5_divide_104 : decode cX5_divide 104 = .ok (.aload_n 0, 1) := by decide +kernel
theorem dX5_divide_105 : decode cX5_divide 105 = .ok (.getfield 28, 3) := by decide +kernel
theorem dX5_divide_108 : decode cX5_divide 108 = .ok (.invokevirtual 57, 3) := by decide +kernel
theorem dX5_divide_111 : decode cX5_divide 111 = .ok (.ifCond .eq 30, 3) := by decide +kernel
theorem dX5_divide_114 : decode cX5_divide 114 = .ok (.aload_n 0, 1) := by decide +kernel
theorem dX5_divide_115 : decode cX5_divide 115 = .ok (.aload_n 0, 1) := by decide +kernel
theorem dX5_divide_116 : decode cX5_divide 116 = .ok (.getfield 22, 3) := by decide +kernel
theorem dX5_divide_119 : decode cX5_divide 119 = .ok (.aload_n 0, 1) := by decide +kernel
theorem dX5_divide_120 : decode cX5_divide 120 = .ok (.getfield 28, 3) := by decide +kernel
theorem dX5_divide_123 : decode cX5_divide 123 = .ok (.invokevirtual 80, 3) := by decide +kernel
theorem dX5_divide_126 : decode cX5_divide 126 = .ok (.aload_n 0, 1) := by decide +kernel
theorem dX5_divide_127 : decode cX5_divide 127 = .ok (.aload_n 0, 1) := by decide +kernel
theorem dX5_divide_128 : decode cX5_divide 128 = .ok (.getfield 19, 3) := by decide +kernel
theorem dX5_divide_131 : decode cX5_divide 131 = .ok (.aload_n 0, 1) := by decide +kernel
theorem dX5_divide_132 : decode cX5_divide 132 = .ok (.getfield 25, 3) := by decide +kernel
theorem dX5_divide_135 : decode cX5_divide 135 = .ok (.invokevirtual 80, 3) := by decide +kernel
theorem dX5_divide_138 : decode cX5_divide 138 = .ok (.goto 35, 3) := by decide +kernel
theorem dX5_divide_141 : decode cX5_divide 141 = .ok (.aload_n 0, 1) := by decide +kernel
theorem dX5_divide_142 : decode cX5_divide 142 = .ok (.aload_n 0, 1) := by decide +kernel
theorem dX5_divide_143 : decode cX5_divide 143 = .ok (.getfield 22, 3) := by decide +kernel
theorem dX5_divide_146 : decode cX5_divide 146 = .ok (.aload_n 0, 1) := by decide +kernel
theorem dX5_divide_147 : decode cX5_divide 147 = .ok (.getfield 22, 3) := by decide +kernel
theorem dX5_divide_150 : decode cX5_divide 150 = .ok (.aload_n 0, 1) := by decide +kernel
theorem dX5_divide_151 : decode cX5_divide 151 = .ok (.getfield 28, 3) := by decide +kernel
theorem dX5_divide_154 : decode cX5_divide 154 = .ok (.invokevirtual 61, 3) := by decide +kernel
theorem dX5_divide_157 : decode cX5_divide 157 = .ok (.aload_n 0, 1) := by decide +kernel
theorem dX5_divide_158 : decode cX5_divide 158 = .ok (.aload_n 0, 1) := by decide +kernel
theorem dX5_divide_159 : decode cX5_divide 159 = .ok (.getfield 19, 3) := by decide +kernel
theorem dX5_divide_162 : decode cX5_divide 162 = .ok (.aload_n 0, 1) := by decide +kernel
theorem dX5_divide_163 : decode cX5_divide 163 = .ok (.getfield 19, 3) := by decide +kernel
theorem dX5_divide_166 : decode cX5_divide 166 = .ok (.aload_n 0, 1) := by decide +kernel
theorem dX5_divide_167 : decode cX5_divide 167 = .ok (.getfield 25, 3) := by decide +kernel
theorem dX5_divide_170 : decode cX5_divide 170 = .ok (.invokevirtual 61, 3) := by decide +kernel
theorem dX5_divide_173 : decode cX5_divide 173 = .ok (.iinc 4 1, 3) := by decide +kernel
theorem dX5_divide_176 : decode cX5_divide 176 = .ok (.goto (-131), 3) := by decide +kernel
theorem dX5_divide_179 : decode cX5_divide 179 = .ok (.aload_n 0, 1) := by decide +kernel
theorem dX5_divide_180 : decode cX5_divide 180 = .ok (.iload_n 1, 1) := by decide +kernel
theorem dX5_divide_181 : decode cX5_divide 181 = .ok (.aload_n 0, 1) := by decide +kernel
theorem dX5_divide_182 : decode cX5_divide 182 = .ok (.getfield 25, 3) := by decide +kernel
theorem dX5_divide_185 : decode cX5_divide 185 = .ok (.iconst 1, 1) := by decide +kernel
theorem dX5_divide_186 : decode cX5_divide 186 = .ok (.invokevirtual 65, 3) := by decide +kernel
theorem dX5_divide_189 : decode cX5_divide 189 = .ok (.return_, 1) := by decide +kernel
abbrev mX5_halve : ks_M := (RX5, cX5_halve, 7, none, "halve")
theorem dX5_halve_0 : decode cX5_halve 0 = .ok (.aload_n 0, 1) := by decide +kernel
theorem dX5_halve_1 : decode cX5_halve 1 = .ok (.getfield 11, 3) := by decide +kernel
theorem dX5_halve_4 : decode cX5_halve 4 = .ok (.iload_n 1, 1) := by decide +kernel
theorem dX5_halve_5 : decode cX5_halve 5 = .ok (.laload, 1) := by decide +kernel
theorem dX5_halve_6 : decode cX5_halve 6 = .ok (.lconst 1, 1) := by decide +kernel
theorem dX5_halve_7 : decode cX5_halve 7 = .ok (.land, 1) := by decide +kernel
theorem dX5_halve_8 : decode cX5_halve 8 = .ok (.lstore_n 2, 1) := by decide +kernel
theorem dX5_halve_9 : decode cX5_halve 9 = .ok (.lconst 0, 1) := by decide +kernel
theorem dX5_halve_10 : decode cX5_halve 10 = .ok (.lstore 4, 2) := by decide +kernel
theorem dX5_halve_12 : decode cX5_halve 12 = .ok (.iconst 0, 1) := by decide +kernel
theorem dX5_halve_13 : decode cX5_halve 13 = .ok (.istore 6, 2) := by decide +kernel
theorem dX5_halve_15 : decode cX5_halve 15 = .ok (.iload 6, 2) := by decide +kernel
theorem dX5_halve_17 : decode cX5_halve 17 = .ok (.bipush 9, 2) := by decide +kernel
theorem dX5_halve_19 : decode cX5_halve 19 = .ok (.if_icmp .ge 64, 3) := by decide +kernel
theorem dX5_halve_22 : decode cX5_halve 22 = .ok (.lload_n 2, 1) := by decide +kernel
theorem dX5_halve_23 : decode cX5_halve 23 = .ok (.lconst 0, 1) := by decide +kernel
theorem dX5_halve_24 : decode cX5_halve 24 = .ok (.lcmp, 1) := by decide +kernel
theorem dX5_halve_25 : decode cX5_halve 25 = .ok (.ifCond .eq 58, 3) := by decide +kernel
theorem dX5_halve_28 : decode cX5_halve 28 = .ok (.lload 4, 2) := by decide +kernel
theorem dX5_halve_30 : decode cX5_halve 30 = .ok (.aload_n 0, 1) := by decide +kernel
theorem dX5_halve_31 : decode cX5_halve 31 = .ok (.getfield 11, 3) := by decide +kernel
theorem dX5_halve_34 : decode cX5_halve 34 = .ok (.iload_n 1, 1) := by decide +kernel
theorem dX5_halve_35 : decode cX5_halve 35 = .ok (.iload 6, 2) := by decide +kernel
theorem dX5_halve_37 : decode cX5_halve 37 = .ok (.iadd, 1) := by decide +kernel
theorem dX5_halve_38 : decode cX5_halve 38 = .ok (.laload, 1) := by decide +kernel
theorem dX5_halve_39 : decode cX5_halve 39 = .ok (.aload_n 0, 1) := by decide +kernel
theorem dX5_halve_40 : decode cX5_halve 40 = .ok (.getfield 11, 3) := by decide +kernel
theorem dX5_halve_43 : decode cX5_halve 43 = .ok (.aload_n 0, 1) := by decide +kernel
theorem dX5_halve_44 : decode cX5_halve 44 = .ok (.getfield 15, 3) := by decide +kernel
theorem dX5_halve_47 : decode cX5_halve 47 = .ok (.iload 6, 2) := by decide +kernel
theorem dX5_halve_49 : decode cX5_halve 49 = .ok (.iadd, 1) := by decide +kernel
theorem dX5_halve_50 : decode cX5_halve 50 = .ok (.laload, 1) := by decide +kernel
theorem dX5_halve_51 : decode cX5_halve 51 = .ok (.ladd, 1) := by decide +kernel
theorem dX5_halve_52 : decode cX5_halve 52 = .ok (.ladd, 1) := by decide +kernel
theorem dX5_halve_53 : decode cX5_halve 53 = .ok (.lstore 4, 2) := by decide +kernel
theorem dX5_halve_55 : decode cX5_halve 55 = .ok (.aload_n 0, 1) := by decide +kernel
theorem dX5_halve_56 : decode cX5_halve 56 = .ok (.getfield 11, 3) := by decide +kernel
theorem dX5_halve_59 : decode cX5_halve 59 = .ok (.iload_n 1, 1) := by decide +kernel
theorem dX5_halve_60 : decode cX5_halve 60 = .ok (.iload 6, 2) := by decide +kernel
theorem dX5_halve_62 : decode cX5_halve 62 = .ok (.iadd, 1) := by decide +kernel
theorem dX5_halve_63 : decode cX5_halve 63 = .ok (.lload 4, 2) := by decide +kernel
theorem dX5_halve_65 : decode cX5_halve 65 = .ok (.ldc2_w 37, 3) := by decide +kernel
theorem dX5_halve_68 : decode cX5_halve 68 = .ok (.land, 1) := by decide +kernel
theorem dX5_halve_69 : decode cX5_halve 69 = .ok (.lastore, 1) := by decide +kernel
theorem dX5_halve_70 : decode cX5_halve 70 = .ok (.lload 4, 2) := by decide +kernel
theorem dX5_halve_72 : decode cX5_halve 72 = .ok (.bipush 29, 2) := by decide +kernel
theorem dX5_halve_74 : decode cX5_halve 74 = .ok (.lshr, 1) := by decide +kernel
theorem dX5_halve_75 : decode cX5_halve 75 = .ok (.lstore 4, 2) := by decide +kernel
theorem dX5_halve_77 : decode cX5_halve 77 = .ok (.iinc 6 1, 3) := by decide +kernel
theorem dX5_halve_80 : decode cX5_halve 80 = .ok (.goto (-65), 3) := by decide +kernel
theorem dX5_halve_83 : decode cX5_halve 83 = .ok (.iconst 0, 1) := by decide +kernel
theorem dX5_halve_84 : decode cX5_halve 84 = .ok (.istore 6, 2) := by decide +kernel
theorem dX5_halve_86 : decode cX5_halve 86 = .ok (.iload 6, 2) := by decide +kernel
theorem dX5_halve_88 : decode cX5_halve 88 = .ok (.bipush 8, 2) := by decide +kernel
theorem dX5_halve_90 : decode cX5_halve 90 = .ok (.if_icmp .ge 46, 3) := by decide +kernel
theorem dX5_halve_93 : decode cX5_halve 93 = .ok (.aload_n 0, 1) := by decide +kernel
theorem dX5_halve_94 : decode cX5_halve 94 = .ok (.getfield 11, 3) := by decide +kernel
theorem dX5_halve_97 : decode cX5_halve 97 = .ok (.iload_n 1, 1) := by decide +kernel
theorem dX5_halve_98 : decode cX5_halve 98 = .ok (.iload 6, 2) := by decide +kernel
theorem dX5_halve_100 : decode cX5_halve 100 = .ok (.iadd, 1) := by decide +kernel
theorem dX5_halve_101 : decode cX5_halve 101 = .ok (.aload_n 0, 1) := by decide +kernel
theorem dX5_halve_102 : decode cX5_halve 102 = .ok (.getfield 11, 3) := by decide +kernel
theorem dX5_halve_105 : decode cX5_halve 105 = .ok (.iload_n 1, 1) := by decide +kernel
theorem dX5_halve_106 : decode cX5_halve 106 = .ok (.iload 6, 2) := by decide +kernel
theorem dX5_halve_108 : decode cX5_halve 108 = .ok (.iadd, 1) := by decide +kernel
theorem dX5_halve_109 : decode cX5_halve 109 = .ok (.laload, 1) := by decide +kernel
theorem dX5_halve_110 : decode cX5_halve 110 = .ok (.iconst 1, 1) := by decide +kernel
theorem dX5_halve_111 : decode cX5_halve 111 = .ok (.lushr, 1) := by decide +kernel
theorem dX5_halve_112 : decode cX5_halve 112 = .ok (.aload_n 0, 1) := by decide +kernel
theorem dX5_halve_113 : decode cX5_halve 113 = .ok (.getfield 11, 3) := by decide +kernel
theorem dX5_halve_116 : decode cX5_halve 116 = .ok (.iload_n 1, 1) := by decide +kernel
theorem dX5_halve_117 : decode cX5_halve 117 = .ok (.iload 6, 2) := by decide +kernel
theorem dX5_halve_119 : decode cX5_halve 119 = .ok (.iadd, 1) := by decide +kernel
theorem dX5_halve_120 : decode cX5_halve 120 = .ok (.iconst 1, 1) := by decide +kernel
theorem dX5_halve_121 : decode cX5_halve 121 = .ok (.iadd, 1) := by decide +kernel
theorem dX5_halve_122 : decode cX5_halve 122 = .ok (.laload, 1) := by decide +kernel
theorem dX5_halve_123 : decode cX5_halve 123 = .ok (.lconst 1, 1) := by decide +kernel
theorem dX5_halve_124 : decode cX5_halve 124 = .ok (.land, 1) := by decide +kernel
theorem dX5_halve_125 : decode cX5_halve 125 = .ok (.bipush 28, 2) := by decide +kernel
theorem dX5_halve_127 : decode cX5_halve 127 = .ok (.lshl, 1) := by decide +kernel
theorem dX5_halve_128 : decode cX5_halve 128 = .ok (.lor, 1) := by decide +kernel
theorem dX5_halve_129 : decode cX5_halve 129 = .ok (.lastore, 1) := by decide +kernel
theorem dX5_halve_130 : decode cX5_halve 130 = .ok (.iinc 6 1, 3) := by decide +kernel
theorem dX5_halve_133 : decode cX5_halve 133 = .ok (.goto (-47), 3) := by decide +kernel
theorem dX5_halve_136 : decode cX5_halve 136 = .ok (.aload_n 0, 1) := by decide +kernel
theorem dX5_halve_137 : decode cX5_halve 137 = .ok (.getfield 11, 3) := by decide +kernel
theorem dX5_halve_140 : decode cX5_halve 140 = .ok (.iload_n 1, 1) := by decide +kernel
theorem dX5_halve_141 : decode cX5_halve 141 = .ok (.bipush 8, 2) := by decide +kernel
theorem dX5_halve_143 : decode cX5_halve 143 = .ok (.iadd, 1) := by decide +kernel
theorem dX5_halve_144 : decode cX5_halve 144 = .ok (.dup2, 1) := by decide +kernel
theorem dX5_halve_145 : decode cX5_halve 145 = .ok (.laload, 1) := by decide +kernel
theorem dX5_halve_146 : decode cX5_halve 146 = .ok (.iconst 1, 1) := by decide +kernel
theorem dX5_halve_147 : decode cX5_halve 147 = .ok (.lushr, 1) := by decide +kernel
theorem dX5_halve_148 : decode cX5_halve 148 = .ok (.lastore, 1) := by decide +kernel
theorem dX5_halve_149 : decode cX5_halve 149 = .ok (.return_, 1) := by decide +kernel
abbrev mX5_swap : ks_M := (RX5, cX5_swap, 6, none, "swap")
theorem dX5_swap_0 : decode cX5_swap 0 = .ok (.iconst 0, 1) := by decide +kernel
theorem dX5_swap_1 : decode cX5_swap 1 = .ok (.istore_n 3, 1) := by decide +kernel
theorem dX5_swap_2 : decode cX5_swap 2 = .ok (.iload_n 3, 1) := by decide +kernel
theorem dX5_swap_3 : decode cX5_swap 3 = .ok (.bipush 9, 2) := by decide +kernel
theorem dX5_swap_5 : decode cX5_swap 5 = .ok (.if_icmp .ge 45, 3) := by decide +kernel
theorem dX5_swap_8 : decode cX5_swap 8 = .ok (.aload_n 0, 1) := by decide +kernel
theorem dX5_swap_9 : decode cX5_swap 9 = .ok (.getfield 11, 3) := by decide +kernel
theorem dX5_swap_12 : decode cX5_swap 12 = .ok (.iload_n 1, 1) := by decide +kernel
theorem dX5_swap_13 : decode cX5_swap 13 = .ok (.iload_n 3, 1) := by decide +kernel
theorem dX5_swap_14 : decode cX5_swap 14 = .ok (.iadd, 1) := by decide +kernel
theorem dX5_swap_15 : decode cX5_swap 15 = .ok (.laload, 1) := by decide +kernel
theorem dX5_swap_16 : decode cX5_swap 16 = .ok (.lstore 4, 2) := by decide +kernel
theorem dX5_swap_18 : decode cX5_swap 18 = .ok (.aload_n 0, 1) := by decide +kernel
theorem dX5_swap_19 : decode cX5_swap 19 = .ok (.getfield 11, 3) := by decide +kernel
theorem dX5_swap_22 : decode cX5_swap 22 = .ok (.iload_n 1, 1) := by decide +kernel
theorem dX5_swap_23 : decode cX5_swap 23 = .ok (.iload_n 3, 1) := by decide +kernel
theorem dX5_swap_24 : decode cX5_swap 24 = .ok (.iadd, 1) := by decide +kernel
theorem dX5_swap_25 : decode cX5_swap 25 = .ok (.aload_n 0, 1) := by decide +kernel
theorem dX5_swap_26 : decode cX5_swap 26 = .ok (.getfield 11, 3) := by decide +kernel
theorem dX5_swap_29 : decode cX5_swap 29 = .ok (.iload_n 2, 1) := by decide +kernel
theorem dX5_swap_30 : decode cX5_swap 30 = .ok (.iload_n 3, 1) := by decide +kernel
theorem dX5_swap_31 : decode cX5_swap 31 = .ok (.iadd, 1) := by decide +kernel
theorem dX5_swap_32 : decode cX5_swap 32 = .ok (.laload, 1) := by decide +kernel
theorem dX5_swap_33 : decode cX5_swap 33 = .ok (.lastore, 1) := by decide +kernel
theorem dX5_swap_34 : decode cX5_swap 34 = .ok (.aload_n 0, 1) := by decide +kernel
theorem dX5_swap_35 : decode cX5_swap 35 = .ok (.getfield 11, 3) := by decide +kernel
theorem dX5_swap_38 : decode cX5_swap 38 = .ok (.iload_n 2, 1) := by decide +kernel
theorem dX5_swap_39 : decode cX5_swap 39 = .ok (.iload_n 3, 1) := by decide +kernel
theorem dX5_swap_40 : decode cX5_swap 40 = .ok (.iadd, 1) := by decide +kernel
theorem dX5_swap_41 : decode cX5_swap 41 = .ok (.lload 4, 2) := by decide +kernel
theorem dX5_swap_43 : decode cX5_swap 43 = .ok (.lastore, 1) := by decide +kernel
theorem dX5_swap_44 : decode cX5_swap 44 = .ok (.iinc 3 1, 3) := by decide +kernel
theorem dX5_swap_47 : decode cX5_swap 47 = .ok (.goto (-45), 3) := by decide +kernel
theorem dX5_swap_50 : decode cX5_swap 50 = .ok (.return_, 1) := by decide +kernel
theorem kx_5 : (Jvm.Cond.initialized "CoinJudge$Field") ∈ lw_tbl := List.mem_append_right _ (List.mem_of_getElem? (i := 5) (by decide +kernel))
theorem kx_113 : (Jvm.Cond.code ({ cls := "CoinJudge$Field", name := "<init>", desc := "([II)V" } : Jvm.MethodName) prog_7_method_1_code (3 : Nat) (Option.none : Option Jvm.ClassFile.FieldType)) ∈ lw_tbl := List.mem_append_right _ (List.mem_of_getElem? (i := 113) (by decide +kernel))
theorem kx_114 : (Jvm.Cond.methodLink "CoinJudge$Field" (5 : Nat) ({ cls := "java/lang/Object", name := "<init>", desc := "()V" } : Jvm.MethodName)) ∈ lw_tbl := List.mem_append_right _ (List.mem_of_getElem? (i := 114) (by decide +kernel))
theorem kx_115 : (Jvm.Cond.methodLink "CoinJudge$Field" (31 : Nat) ({ cls := "CoinJudge$Field", name := "loadWords", desc := "(I[I)V" } : Jvm.MethodName)) ∈ lw_tbl := List.mem_append_right _ (List.mem_of_getElem? (i := 115) (by decide +kernel))
theorem kx_116 : (Jvm.Cond.instanceMethod ({ cls := "CoinJudge$Field", name := "loadWords", desc := "(I[I)V" } : Jvm.MethodName)) ∈ lw_tbl := List.mem_append_right _ (List.mem_of_getElem? (i := 116) (by decide +kernel))
theorem kx_117 : (Jvm.Cond.selects "CoinJudge$Field" ({ cls := "CoinJudge$Field", name := "loadWords", desc := "(I[I)V" } : Jvm.MethodName) ({ cls := "CoinJudge$Field", name := "loadWords", desc := "(I[I)V" } : Jvm.MethodName)) ∈ lw_tbl := List.mem_append_right _ (List.mem_of_getElem? (i := 117) (by decide +kernel))
theorem kx_118 : (Jvm.Cond.code ({ cls := "CoinJudge$Field", name := "loadWords", desc := "(I[I)V" } : Jvm.MethodName) prog_7_method_2_code (8 : Nat) (Option.none : Option Jvm.ClassFile.FieldType)) ∈ lw_tbl := List.mem_append_right _ (List.mem_of_getElem? (i := 118) (by decide +kernel))
theorem kx_119 : (Jvm.Cond.constantLong "CoinJudge$Field" (35 : Nat) (4294967295 : Int64)) ∈ lw_tbl := List.mem_append_right _ (List.mem_of_getElem? (i := 119) (by decide +kernel))
theorem kx_120 : (Jvm.Cond.constantLong "CoinJudge$Field" (37 : Nat) (536870911 : Int64)) ∈ lw_tbl := List.mem_append_right _ (List.mem_of_getElem? (i := 120) (by decide +kernel))
theorem kx_121 : (Jvm.Cond.fieldLink "CoinJudge$Field" (11 : Nat) "CoinJudge$Field" "cells" "[J") ∈ lw_tbl := List.mem_append_right _ (List.mem_of_getElem? (i := 121) (by decide +kernel))
theorem kx_123 : (Jvm.Cond.fieldLink "CoinJudge$Field" (15 : Nat) "CoinJudge$Field" "modulus" "I") ∈ lw_tbl := List.mem_append_right _ (List.mem_of_getElem? (i := 123) (by decide +kernel))
theorem kx_125 : (Jvm.Cond.fieldLink "CoinJudge$Field" (19 : Nat) "CoinJudge$Field" "dividend" "I") ∈ lw_tbl := List.mem_append_right _ (List.mem_of_getElem? (i := 125) (by decide +kernel))
theorem kx_126 : (Jvm.Cond.fieldLink "CoinJudge$Field" (22 : Nat) "CoinJudge$Field" "divisor" "I") ∈ lw_tbl := List.mem_append_right _ (List.mem_of_getElem? (i := 126) (by decide +kernel))
theorem kx_127 : (Jvm.Cond.fieldLink "CoinJudge$Field" (25 : Nat) "CoinJudge$Field" "otherDividend" "I") ∈ lw_tbl := List.mem_append_right _ (List.mem_of_getElem? (i := 127) (by decide +kernel))
theorem kx_128 : (Jvm.Cond.fieldLink "CoinJudge$Field" (28 : Nat) "CoinJudge$Field" "otherDivisor" "I") ∈ lw_tbl := List.mem_append_right _ (List.mem_of_getElem? (i := 128) (by decide +kernel))
theorem kx_146 : (Jvm.Cond.instanceMethod ({ cls := "CoinJudge$Field", name := "loadSmall", desc := "(II)V" } : Jvm.MethodName)) ∈ lw_tbl := List.mem_append_right _ (List.mem_of_getElem? (i := 146) (by decide +kernel))
theorem kx_147 : (Jvm.Cond.selects "CoinJudge$Field" ({ cls := "CoinJudge$Field", name := "loadSmall", desc := "(II)V" } : Jvm.MethodName) ({ cls := "CoinJudge$Field", name := "loadSmall", desc := "(II)V" } : Jvm.MethodName)) ∈ lw_tbl := List.mem_append_right _ (List.mem_of_getElem? (i := 147) (by decide +kernel))
theorem kx_148 : (Jvm.Cond.code ({ cls := "CoinJudge$Field", name := "loadSmall", desc := "(II)V" } : Jvm.MethodName) prog_7_method_4_code (3 : Nat) (Option.none : Option Jvm.ClassFile.FieldType)) ∈ lw_tbl := List.mem_append_right _ (List.mem_of_getElem? (i := 148) (by decide +kernel))
theorem kx_149 : (Jvm.Cond.methodLink "CoinJudge$Field" (41 : Nat) ({ cls := "java/util/Arrays", name := "fill", desc := "([JIIJ)V" } : Jvm.MethodName)) ∈ lw_tbl := List.mem_append_right _ (List.mem_of_getElem? (i := 149) (by decide +kernel))
theorem kx_150 : (Jvm.Cond.static ({ cls := "java/util/Arrays", name := "fill", desc := "([JIIJ)V" } : Jvm.MethodName)) ∈ lw_tbl := List.mem_append_right _ (List.mem_of_getElem? (i := 150) (by decide +kernel))
theorem kx_517 : (Jvm.Cond.code ({ cls := "CoinJudge$Field", name := "add", desc := "(III)V" } : Jvm.MethodName) prog_7_method_12_code (8 : Nat) (Option.none : Option Jvm.ClassFile.FieldType)) ∈ lw_tbl := List.mem_append_right _ (List.mem_of_getElem? (i := 517) (by decide +kernel))
theorem kx_519 : (Jvm.Cond.instanceMethod ({ cls := "CoinJudge$Field", name := "subtract", desc := "(III)V" } : Jvm.MethodName)) ∈ lw_tbl := List.mem_append_right _ (List.mem_of_getElem? (i := 519) (by decide +kernel))
theorem kx_520 : (Jvm.Cond.selects "CoinJudge$Field" ({ cls := "CoinJudge$Field", name := "subtract", desc := "(III)V" } : Jvm.MethodName) ({ cls := "CoinJudge$Field", name := "subtract", desc := "(III)V" } : Jvm.MethodName)) ∈ lw_tbl := List.mem_append_right _ (List.mem_of_getElem? (i := 520) (by decide +kernel))
theorem kx_521 : (Jvm.Cond.code ({ cls := "CoinJudge$Field", name := "subtract", desc := "(III)V" } : Jvm.MethodName) prog_7_method_13_code (7 : Nat) (Option.none : Option Jvm.ClassFile.FieldType)) ∈ lw_tbl := List.mem_append_right _ (List.mem_of_getElem? (i := 521) (by decide +kernel))
theorem kx_527 : (Jvm.Cond.instanceMethod ({ cls := "CoinJudge$Field", name := "isZero", desc := "(I)Z" } : Jvm.MethodName)) ∈ lw_tbl := List.mem_append_right _ (List.mem_of_getElem? (i := 527) (by decide +kernel))
theorem kx_528 : (Jvm.Cond.selects "CoinJudge$Field" ({ cls := "CoinJudge$Field", name := "isZero", desc := "(I)Z" } : Jvm.MethodName) ({ cls := "CoinJudge$Field", name := "isZero", desc := "(I)Z" } : Jvm.MethodName)) ∈ lw_tbl := List.mem_append_right _ (List.mem_of_getElem? (i := 528) (by decide +kernel))
theorem kx_529 : (Jvm.Cond.code ({ cls := "CoinJudge$Field", name := "isZero", desc := "(I)Z" } : Jvm.MethodName) prog_7_method_8_code (5 : Nat) (Option.some Jvm.ClassFile.FieldType.boolean)) ∈ lw_tbl := List.mem_append_right _ (List.mem_of_getElem? (i := 529) (by decide +kernel))
theorem kx_531 : (Jvm.Cond.instanceMethod ({ cls := "CoinJudge$Field", name := "copy", desc := "(III)V" } : Jvm.MethodName)) ∈ lw_tbl := List.mem_append_right _ (List.mem_of_getElem? (i := 531) (by decide +kernel))
theorem kx_532 : (Jvm.Cond.selects "CoinJudge$Field" ({ cls := "CoinJudge$Field", name := "copy", desc := "(III)V" } : Jvm.MethodName) ({ cls := "CoinJudge$Field", name := "copy", desc := "(III)V" } : Jvm.MethodName)) ∈ lw_tbl := List.mem_append_right _ (List.mem_of_getElem? (i := 532) (by decide +kernel))
theorem kx_533 : (Jvm.Cond.code ({ cls := "CoinJudge$Field", name := "copy", desc := "(III)V" } : Jvm.MethodName) prog_7_method_7_code (4 : Nat) (Option.none : Option Jvm.ClassFile.FieldType)) ∈ lw_tbl := List.mem_append_right _ (List.mem_of_getElem? (i := 533) (by decide +kernel))
theorem kx_534 : (Jvm.Cond.methodLink "CoinJudge$Field" (51 : Nat) ({ cls := "java/lang/System", name := "arraycopy", desc := "(Ljava/lang/Object;ILjava/lang/Object;II)V" } : Jvm.MethodName)) ∈ lw_tbl := List.mem_append_right _ (List.mem_of_getElem? (i := 534) (by decide +kernel))
theorem kx_1187 : (Jvm.Cond.instanceMethod ({ cls := "CoinJudge$Field", name := "bitsAt", desc := "(II)J" } : Jvm.MethodName)) ∈ lw_tbl := List.mem_append_right _ (List.mem_of_getElem? (i := 1187) (by decide +kernel))
theorem kx_1188 : (Jvm.Cond.selects "CoinJudge$Field" ({ cls := "CoinJudge$Field", name := "bitsAt", desc := "(II)J" } : Jvm.MethodName) ({ cls := "CoinJudge$Field", name := "bitsAt", desc := "(II)J" } : Jvm.MethodName)) ∈ lw_tbl := List.mem_append_right _ (List.mem_of_getElem? (i := 1188) (by decide +kernel))
theorem kx_1189 : (Jvm.Cond.code ({ cls := "CoinJudge$Field", name := "bitsAt", desc := "(II)J" } : Jvm.MethodName) prog_7_method_6_code (7 : Nat) (Option.some Jvm.ClassFile.FieldType.long)) ∈ lw_tbl := List.mem_append_right _ (List.mem_of_getElem? (i := 1189) (by decide +kernel))
theorem kx_1193 : (Jvm.Cond.code ({ cls := "CoinJudge$Field", name := "divide", desc := "(III)V" } : Jvm.MethodName) prog_7_method_14_code (5 : Nat) (Option.none : Option Jvm.ClassFile.FieldType)) ∈ lw_tbl := List.mem_append_right _ (List.mem_of_getElem? (i := 1193) (by decide +kernel))
theorem kx_1194 : (Jvm.Cond.methodLink "CoinJudge$Field" (65 : Nat) ({ cls := "CoinJudge$Field", name := "copy", desc := "(III)V" } : Jvm.MethodName)) ∈ lw_tbl := List.mem_append_right _ (List.mem_of_getElem? (i := 1194) (by decide +kernel))
theorem kx_1195 : (Jvm.Cond.methodLink "CoinJudge$Field" (68 : Nat) ({ cls := "CoinJudge$Field", name := "loadSmall", desc := "(II)V" } : Jvm.MethodName)) ∈ lw_tbl := List.mem_append_right _ (List.mem_of_getElem? (i := 1195) (by decide +kernel))
theorem kx_1196 : (Jvm.Cond.methodLink "CoinJudge$Field" (72 : Nat) ({ cls := "CoinJudge$Field", name := "isZero", desc := "(I)Z" } : Jvm.MethodName)) ∈ lw_tbl := List.mem_append_right _ (List.mem_of_getElem? (i := 1196) (by decide +kernel))
theorem kx_1197 : (Jvm.Cond.methodLink "CoinJudge$Field" (76 : Nat) ({ cls := "CoinJudge$Field", name := "halve", desc := "(I)V" } : Jvm.MethodName)) ∈ lw_tbl := List.mem_append_right _ (List.mem_of_getElem? (i := 1197) (by decide +kernel))
theorem kx_1199 : (Jvm.Cond.instanceMethod ({ cls := "CoinJudge$Field", name := "halve", desc := "(I)V" } : Jvm.MethodName)) ∈ lw_tbl := List.mem_append_right _ (List.mem_of_getElem? (i := 1199) (by decide +kernel))
theorem kx_1200 : (Jvm.Cond.code ({ cls := "CoinJudge$Field", name := "halve", desc := "(I)V" } : Jvm.MethodName) prog_7_method_15_code (7 : Nat) (Option.none : Option Jvm.ClassFile.FieldType)) ∈ lw_tbl := List.mem_append_right _ (List.mem_of_getElem? (i := 1200) (by decide +kernel))
theorem kx_1201 : (Jvm.Cond.methodLink "CoinJudge$Field" (57 : Nat) ({ cls := "CoinJudge$Field", name := "isBelow", desc := "(II)Z" } : Jvm.MethodName)) ∈ lw_tbl := List.mem_append_right _ (List.mem_of_getElem? (i := 1201) (by decide +kernel))
theorem kx_1202 : (Jvm.Cond.instanceMethod ({ cls := "CoinJudge$Field", name := "isBelow", desc := "(II)Z" } : Jvm.MethodName)) ∈ lw_tbl := List.mem_append_right _ (List.mem_of_getElem? (i := 1202) (by decide +kernel))
theorem kx_1203 : (Jvm.Cond.selects "CoinJudge$Field" ({ cls := "CoinJudge$Field", name := "isBelow", desc := "(II)Z" } : Jvm.MethodName) ({ cls := "CoinJudge$Field", name := "isBelow", desc := "(II)Z" } : Jvm.MethodName)) ∈ lw_tbl := List.mem_append_right _ (List.mem_of_getElem? (i := 1203) (by decide +kernel))
theorem kx_1204 : (Jvm.Cond.code ({ cls := "CoinJudge$Field", name := "isBelow", desc := "(II)Z" } : Jvm.MethodName) prog_7_method_10_code (4 : Nat) (Option.some Jvm.ClassFile.FieldType.boolean)) ∈ lw_tbl := List.mem_append_right _ (List.mem_of_getElem? (i := 1204) (by decide +kernel))
theorem kx_1205 : (Jvm.Cond.methodLink "CoinJudge$Field" (80 : Nat) ({ cls := "CoinJudge$Field", name := "swap", desc := "(II)V" } : Jvm.MethodName)) ∈ lw_tbl := List.mem_append_right _ (List.mem_of_getElem? (i := 1205) (by decide +kernel))
theorem kx_1207 : (Jvm.Cond.instanceMethod ({ cls := "CoinJudge$Field", name := "swap", desc := "(II)V" } : Jvm.MethodName)) ∈ lw_tbl := List.mem_append_right _ (List.mem_of_getElem? (i := 1207) (by decide +kernel))
theorem kx_1208 : (Jvm.Cond.code ({ cls := "CoinJudge$Field", name := "swap", desc := "(II)V" } : Jvm.MethodName) prog_7_method_16_code (6 : Nat) (Option.none : Option Jvm.ClassFile.FieldType)) ∈ lw_tbl := List.mem_append_right _ (List.mem_of_getElem? (i := 1208) (by decide +kernel))
theorem kx_1209 : (Jvm.Cond.methodLink "CoinJudge$Field" (61 : Nat) ({ cls := "CoinJudge$Field", name := "subtract", desc := "(III)V" } : Jvm.MethodName)) ∈ lw_tbl := List.mem_append_right _ (List.mem_of_getElem? (i := 1209) (by decide +kernel))
theorem kx_1213 : (Jvm.Cond.code ({ cls := "CoinJudge$Field", name := "store", desc := "(I[BI)V" } : Jvm.MethodName) prog_7_method_5_code (5 : Nat) (Option.none : Option Jvm.ClassFile.FieldType)) ∈ lw_tbl := List.mem_append_right _ (List.mem_of_getElem? (i := 1213) (by decide +kernel))
theorem kx_1214 : (Jvm.Cond.methodLink "CoinJudge$Field" (47 : Nat) ({ cls := "CoinJudge$Field", name := "bitsAt", desc := "(II)J" } : Jvm.MethodName)) ∈ lw_tbl := List.mem_append_right _ (List.mem_of_getElem? (i := 1214) (by decide +kernel))
theorem kx_1368 : (Jvm.Cond.code ({ cls := "CoinJudge$Field", name := "load", desc := "(I[BI)V" } : Jvm.MethodName) prog_7_method_3_code (9 : Nat) (Option.none : Option Jvm.ClassFile.FieldType)) ∈ lw_tbl := List.mem_append_right _ (List.mem_of_getElem? (i := 1368) (by decide +kernel))
theorem kx_1369 : (Jvm.Cond.constantLong "CoinJudge$Field" (39 : Nat) (255 : Int64)) ∈ lw_tbl := List.mem_append_right _ (List.mem_of_getElem? (i := 1369) (by decide +kernel))
theorem kx_1373 : (Jvm.Cond.code ({ cls := "CoinJudge$Field", name := "reduce", desc := "(I)V" } : Jvm.MethodName) prog_7_method_11_code (2 : Nat) (Option.none : Option Jvm.ClassFile.FieldType)) ∈ lw_tbl := List.mem_append_right _ (List.mem_of_getElem? (i := 1373) (by decide +kernel))
theorem kx_1631 : (Jvm.Cond.code ({ cls := "CoinJudge$Field", name := "isSame", desc := "(II)Z" } : Jvm.MethodName) prog_7_method_9_code (6 : Nat) (Option.some Jvm.ClassFile.FieldType.boolean)) ∈ lw_tbl := List.mem_append_right _ (List.mem_of_getElem? (i := 1631) (by decide +kernel))
theorem kxp_17 : Cond.selects "CoinJudge$Field" ({ cls := "CoinJudge$Field", name := "halve", desc := "(I)V" } : MethodName) ({ cls := "CoinJudge$Field", name := "halve", desc := "(I)V" } : MethodName) ∈ lw_tbl := List.mem_append_left _ (List.mem_of_getElem? (i := 17) (by decide +kernel))
theorem kxp_18 : Cond.selects "CoinJudge$Field" ({ cls := "CoinJudge$Field", name := "swap", desc := "(II)V" } : MethodName) ({ cls := "CoinJudge$Field", name := "swap", desc := "(II)V" } : MethodName) ∈ lw_tbl := List.mem_append_left _ (List.mem_of_getElem? (i := 18) (by decide +kernel))

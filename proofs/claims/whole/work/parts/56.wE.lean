theorem cl_X2 : vwCl[5]? = some (RX2, TX2, 14) := rfl
theorem in_X2 : ∀ w ∈ u_ws RX2 TX2 14, w ∈ lw_tbl ∧ goodWord w = true := by decide +kernel
abbrev mX2_init : ks_M := (RX2, cX2_init, 4, none, "<init>")
theorem dX2_init_0 : decode cX2_init 0 = .ok (.aload_n 0, 1) := by decide +kernel
theorem dX2_init_1 : decode cX2_init 1 = .ok (.invokespecial 5, 3) := by decide +kernel
theorem dX2_init_4 : decode cX2_init 4 = .ok (.aload_n 0, 1) := by decide +kernel
theorem dX2_init_5 : decode cX2_init 5 = .ok (.bipush 61, 2) := by decide +kernel
theorem dX2_init_7 : decode cX2_init 7 = .ok (.anewarray 11, 3) := by decide +kernel
theorem dX2_init_10 : decode cX2_init 10 = .ok (.putfield 13, 3) := by decide +kernel
theorem dX2_init_13 : decode cX2_init 13 = .ok (.aload_n 0, 1) := by decide +kernel
theorem dX2_init_14 : decode cX2_init 14 = .ok (.bipush 60, 2) := by decide +kernel
theorem dX2_init_16 : decode cX2_init 16 = .ok (.newarray .int, 2) := by decide +kernel
theorem dX2_init_18 : decode cX2_init 18 = .ok (.putfield 17, 3) := by decide +kernel
theorem dX2_init_21 : decode cX2_init 21 = .ok (.aload_n 0, 1) := by decide +kernel
theorem dX2_init_22 : decode cX2_init 22 = .ok (.new 21, 3) := by decide +kernel
theorem dX2_init_25 : decode cX2_init 25 = .ok (.dup, 1) := by decide +kernel
theorem dX2_init_26 : decode cX2_init 26 = .ok (.invokespecial 23, 3) := by decide +kernel
theorem dX2_init_29 : decode cX2_init 29 = .ok (.putfield 24, 3) := by decide +kernel
theorem dX2_init_32 : decode cX2_init 32 = .ok (.aload_n 0, 1) := by decide +kernel
theorem dX2_init_33 : decode cX2_init 33 = .ok (.bipush 11, 2) := by decide +kernel
theorem dX2_init_35 : decode cX2_init 35 = .ok (.newarray .long, 2) := by decide +kernel
theorem dX2_init_37 : decode cX2_init 37 = .ok (.putfield 28, 3) := by decide +kernel
theorem dX2_init_40 : decode cX2_init 40 = .ok (.aload_n 0, 1) := by decide +kernel
theorem dX2_init_41 : decode cX2_init 41 = .ok (.bipush 32, 2) := by decide +kernel
theorem dX2_init_43 : decode cX2_init 43 = .ok (.newarray .byte, 2) := by decide +kernel
theorem dX2_init_45 : decode cX2_init 45 = .ok (.putfield 32, 3) := by decide +kernel
theorem dX2_init_48 : decode cX2_init 48 = .ok (.aload_n 0, 1) := by decide +kernel
theorem dX2_init_49 : decode cX2_init 49 = .ok (.sipush 580, 3) := by decide +kernel
theorem dX2_init_52 : decode cX2_init 52 = .ok (.newarray .int, 2) := by decide +kernel
theorem dX2_init_54 : decode cX2_init 54 = .ok (.putfield 36, 3) := by decide +kernel
theorem dX2_init_57 : decode cX2_init 57 = .ok (.aload_n 0, 1) := by decide +kernel
theorem dX2_init_58 : decode cX2_init 58 = .ok (.bipush 40, 2) := by decide +kernel
theorem dX2_init_60 : decode cX2_init 60 = .ok (.newarray .int, 2) := by decide +kernel
theorem dX2_init_62 : decode cX2_init 62 = .ok (.putfield 39, 3) := by decide +kernel
theorem dX2_init_65 : decode cX2_init 65 = .ok (.aload_n 0, 1) := by decide +kernel
theorem dX2_init_66 : decode cX2_init 66 = .ok (.aload_n 1, 1) := by decide +kernel
theorem dX2_init_67 : decode cX2_init 67 = .ok (.putfield 42, 3) := by decide +kernel
theorem dX2_init_70 : decode cX2_init 70 = .ok (.aload_n 0, 1) := by decide +kernel
theorem dX2_init_71 : decode cX2_init 71 = .ok (.aload_n 2, 1) := by decide +kernel
theorem dX2_init_72 : decode cX2_init 72 = .ok (.putfield 46, 3) := by decide +kernel
theorem dX2_init_75 : decode cX2_init 75 = .ok (.aload_n 0, 1) := by decide +kernel
theorem dX2_init_76 : decode cX2_init 76 = .ok (.aload_n 3, 1) := by decide +kernel
theorem dX2_init_77 : decode cX2_init 77 = .ok (.putfield 50, 3) := by decide +kernel
theorem dX2_init_80 : decode cX2_init 80 = .ok (.return_, 1) := by decide +kernel
abbrev mX2_keepFirst : ks_M := (RX2, cX2_keepFirst, 3, none, "keepFirst")
theorem dX2_keepFirst_0 : decode cX2_keepFirst 0 = .ok (.new 11, 3) := by decide +kernel
theorem dX2_keepFirst_3 : decode cX2_keepFirst 3 = .ok (.dup, 1) := by decide +kernel
theorem dX2_keepFirst_4 : decode cX2_keepFirst 4 = .ok (.invokespecial 54, 3) := by decide +kernel
theorem dX2_keepFirst_7 : decode cX2_keepFirst 7 = .ok (.astore_n 2, 1) := by decide +kernel
theorem dX2_keepFirst_8 : decode cX2_keepFirst 8 = .ok (.aload_n 2, 1) := by decide +kernel
theorem dX2_keepFirst_9 : decode cX2_keepFirst 9 = .ok (.aload_n 1, 1) := by decide +kernel
theorem dX2_keepFirst_10 : decode cX2_keepFirst 10 = .ok (.aload_n 0, 1) := by decide +kernel
theorem dX2_keepFirst_11 : decode cX2_keepFirst 11 = .ok (.getfield 50, 3) := by decide +kernel
theorem dX2_keepFirst_14 : decode cX2_keepFirst 14 = .ok (.aload_n 0, 1) := by decide +kernel
theorem dX2_keepFirst_15 : decode cX2_keepFirst 15 = .ok (.getfield 42, 3) := by decide +kernel
theorem dX2_keepFirst_18 : decode cX2_keepFirst 18 = .ok (.invokevirtual 55, 3) := by decide +kernel
theorem dX2_keepFirst_21 : decode cX2_keepFirst 21 = .ok (.pop, 1) := by decide +kernel
theorem dX2_keepFirst_22 : decode cX2_keepFirst 22 = .ok (.aload_n 2, 1) := by decide +kernel
theorem dX2_keepFirst_23 : decode cX2_keepFirst 23 = .ok (.aload_n 0, 1) := by decide +kernel
theorem dX2_keepFirst_24 : decode cX2_keepFirst 24 = .ok (.getfield 42, 3) := by decide +kernel
theorem dX2_keepFirst_27 : decode cX2_keepFirst 27 = .ok (.invokevirtual 59, 3) := by decide +kernel
theorem dX2_keepFirst_30 : decode cX2_keepFirst 30 = .ok (.aload_n 0, 1) := by decide +kernel
theorem dX2_keepFirst_31 : decode cX2_keepFirst 31 = .ok (.getfield 24, 3) := by decide +kernel
theorem dX2_keepFirst_34 : decode cX2_keepFirst 34 = .ok (.aload_n 2, 1) := by decide +kernel
theorem dX2_keepFirst_35 : decode cX2_keepFirst 35 = .ok (.invokevirtual 63, 3) := by decide +kernel
theorem dX2_keepFirst_38 : decode cX2_keepFirst 38 = .ok (.invokevirtual 67, 3) := by decide +kernel
theorem dX2_keepFirst_41 : decode cX2_keepFirst 41 = .ok (.pop, 1) := by decide +kernel
theorem dX2_keepFirst_42 : decode cX2_keepFirst 42 = .ok (.aload_n 2, 1) := by decide +kernel
theorem dX2_keepFirst_43 : decode cX2_keepFirst 43 = .ok (.aload_n 0, 1) := by decide +kernel
theorem dX2_keepFirst_44 : decode cX2_keepFirst 44 = .ok (.getfield 24, 3) := by decide +kernel
theorem dX2_keepFirst_47 : decode cX2_keepFirst 47 = .ok (.invokevirtual 71, 3) := by decide +kernel
theorem dX2_keepFirst_50 : decode cX2_keepFirst 50 = .ok (.putfield 75, 3) := by decide +kernel
theorem dX2_keepFirst_53 : decode cX2_keepFirst 53 = .ok (.aload_n 0, 1) := by decide +kernel
theorem dX2_keepFirst_54 : decode cX2_keepFirst 54 = .ok (.getfield 13, 3) := by decide +kernel
theorem dX2_keepFirst_57 : decode cX2_keepFirst 57 = .ok (.iconst 0, 1) := by decide +kernel
theorem dX2_keepFirst_58 : decode cX2_keepFirst 58 = .ok (.aload_n 2, 1) := by decide +kernel
theorem dX2_keepFirst_59 : decode cX2_keepFirst 59 = .ok (.aastore, 1) := by decide +kernel
theorem dX2_keepFirst_60 : decode cX2_keepFirst 60 = .ok (.aload_n 0, 1) := by decide +kernel
theorem dX2_keepFirst_61 : decode cX2_keepFirst 61 = .ok (.iconst 1, 1) := by decide +kernel
theorem dX2_keepFirst_62 : decode cX2_keepFirst 62 = .ok (.putfield 78, 3) := by decide +kernel
theorem dX2_keepFirst_65 : decode cX2_keepFirst 65 = .ok (.aload_n 0, 1) := by decide +kernel
theorem dX2_keepFirst_66 : decode cX2_keepFirst 66 = .ok (.iconst 0, 1) := by decide +kernel
theorem dX2_keepFirst_67 : decode cX2_keepFirst 67 = .ok (.iconst 0, 1) := by decide +kernel
theorem dX2_keepFirst_68 : decode cX2_keepFirst 68 = .ok (.invokevirtual 82, 3) := by decide +kernel
theorem dX2_keepFirst_71 : decode cX2_keepFirst 71 = .ok (.aload_n 2, 1) := by decide +kernel
theorem dX2_keepFirst_72 : decode cX2_keepFirst 72 = .ok (.aload_n 0, 1) := by decide +kernel
theorem dX2_keepFirst_73 : decode cX2_keepFirst 73 = .ok (.getfield 36, 3) := by decide +kernel
theorem dX2_keepFirst_76 : decode cX2_keepFirst 76 = .ok (.aload_n 0, 1) := by decide +kernel
theorem dX2_keepFirst_77 : decode cX2_keepFirst 77 = .ok (.getfield 86, 3) := by decide +kernel
theorem dX2_keepFirst_80 : decode cX2_keepFirst 80 = .ok (.invokestatic 89, 3) := by decide +kernel
theorem dX2_keepFirst_83 : decode cX2_keepFirst 83 = .ok (.putfield 95, 3) := by decide +kernel
theorem dX2_keepFirst_86 : decode cX2_keepFirst 86 = .ok (.return_, 1) := by decide +kernel
abbrev mX2_inspect : ks_M := (RX2, cX2_inspect, 4, (some .int), "inspect")
theorem dX2_inspect_0 : decode cX2_inspect 0 = .ok (.aload_n 0, 1) := by decide +kernel
theorem dX2_inspect_1 : decode cX2_inspect 1 = .ok (.getfield 13, 3) := by decide +kernel
theorem dX2_inspect_4 : decode cX2_inspect 4 = .ok (.aload_n 0, 1) := by decide +kernel
theorem dX2_inspect_5 : decode cX2_inspect 5 = .ok (.getfield 78, 3) := by decide +kernel
theorem dX2_inspect_8 : decode cX2_inspect 8 = .ok (.aaload, 1) := by decide +kernel
theorem dX2_inspect_9 : decode cX2_inspect 9 = .ok (.ifnonnull 19, 3) := by decide +kernel
theorem dX2_inspect_12 : decode cX2_inspect 12 = .ok (.aload_n 0, 1) := by decide +kernel
theorem dX2_inspect_13 : decode cX2_inspect 13 = .ok (.getfield 13, 3) := by decide +kernel
theorem dX2_inspect_16 : decode cX2_inspect 16 = .ok (.aload_n 0, 1) := by decide +kernel
theorem dX2_inspect_17 : decode cX2_inspect 17 = .ok (.getfield 78, 3) := by decide +kernel
theorem dX2_inspect_20 : decode cX2_inspect 20 = .ok (.new 11, 3) := by decide +kernel
theorem dX2_inspect_23 : decode cX2_inspect 23 = .ok (.dup, 1) := by decide +kernel
theorem dX2_inspect_24 : decode cX2_inspect 24 = .ok (.invokespecial 54, 3) := by decide +kernel
theorem dX2_inspect_27 : decode cX2_inspect 27 = .ok (.aastore, 1) := by decide +kernel
theorem dX2_inspect_28 : decode cX2_inspect 28 = .ok (.aload_n 0, 1) := by decide +kernel
theorem dX2_inspect_29 : decode cX2_inspect 29 = .ok (.getfield 13, 3) := by decide +kernel
theorem dX2_inspect_32 : decode cX2_inspect 32 = .ok (.aload_n 0, 1) := by decide +kernel
theorem dX2_inspect_33 : decode cX2_inspect 33 = .ok (.getfield 78, 3) := by decide +kernel
theorem dX2_inspect_36 : decode cX2_inspect 36 = .ok (.aaload, 1) := by decide +kernel
theorem dX2_inspect_37 : decode cX2_inspect 37 = .ok (.astore_n 2, 1) := by decide +kernel
theorem dX2_inspect_38 : decode cX2_inspect 38 = .ok (.aload_n 2, 1) := by decide +kernel
theorem dX2_inspect_39 : decode cX2_inspect 39 = .ok (.aload_n 1, 1) := by decide +kernel
theorem dX2_inspect_40 : decode cX2_inspect 40 = .ok (.aload_n 0, 1) := by decide +kernel
theorem dX2_inspect_41 : decode cX2_inspect 41 = .ok (.getfield 50, 3) := by decide +kernel
theorem dX2_inspect_44 : decode cX2_inspect 44 = .ok (.aload_n 0, 1) := by decide +kernel
theorem dX2_inspect_45 : decode cX2_inspect 45 = .ok (.getfield 42, 3) := by decide +kernel
theorem dX2_inspect_48 : decode cX2_inspect 48 = .ok (.invokevirtual 55, 3) := by decide +kernel
theorem dX2_inspect_51 : decode cX2_inspect 51 = .ok (.ifCond .ne 5, 3) := by decide +kernel
theorem dX2_inspect_54 : decode cX2_inspect 54 = .ok (.iconst 1, 1) := by decide +kernel
theorem dX2_inspect_55 : decode cX2_inspect 55 = .ok (.ireturn, 1) := by decide +kernel
theorem dX2_inspect_56 : decode cX2_inspect 56 = .ok (.aload_n 0, 1) := by decide +kernel
theorem dX2_inspect_57 : decode cX2_inspect 57 = .ok (.aload_n 2, 1) := by decide +kernel
theorem dX2_inspect_58 : decode cX2_inspect 58 = .ok (.getfield 96, 3) := by decide +kernel
theorem dX2_inspect_61 : decode cX2_inspect 61 = .ok (.iconst 0, 1) := by decide +kernel
theorem dX2_inspect_62 : decode cX2_inspect 62 = .ok (.invokevirtual 99, 3) := by decide +kernel
theorem dX2_inspect_65 : decode cX2_inspect 65 = .ok (.ifCond .lt 5, 3) := by decide +kernel
theorem dX2_inspect_68 : decode cX2_inspect 68 = .ok (.iconst (-1), 1) := by decide +kernel
theorem dX2_inspect_69 : decode cX2_inspect 69 = .ok (.ireturn, 1) := by decide +kernel
theorem dX2_inspect_70 : decode cX2_inspect 70 = .ok (.aload_n 0, 1) := by decide +kernel
theorem dX2_inspect_71 : decode cX2_inspect 71 = .ok (.getfield 24, 3) := by decide +kernel
theorem dX2_inspect_74 : decode cX2_inspect 74 = .ok (.aload_n 2, 1) := by decide +kernel
theorem dX2_inspect_75 : decode cX2_inspect 75 = .ok (.invokevirtual 63, 3) := by decide +kernel
theorem dX2_inspect_78 : decode cX2_inspect 78 = .ok (.invokevirtual 67, 3) := by decide +kernel
theorem dX2_inspect_81 : decode cX2_inspect 81 = .ok (.ifCond .eq 17, 3) := by decide +kernel
theorem dX2_inspect_84 : decode cX2_inspect 84 = .ok (.aload_n 0, 1) := by decide +kernel
theorem dX2_inspect_85 : decode cX2_inspect 85 = .ok (.getfield 24, 3) := by decide +kernel
theorem dX2_inspect_88 : decode cX2_inspect 88 = .ok (.aload_n 2, 1) := by decide +kernel
theorem dX2_inspect_89 : decode cX2_inspect 89 = .ok (.getfield 96, 3) := by decide +kernel
theorem dX2_inspect_92 : decode cX2_inspect 92 = .ok (.invokevirtual 103, 3) := by decide +kernel
theorem dX2_inspect_95 : decode cX2_inspect 95 = .ok (.ifCond .ne 5, 3) := by decide +kernel
theorem dX2_inspect_98 : decode cX2_inspect 98 = .ok (.iconst 2, 1) := by decide +kernel
theorem dX2_inspect_99 : decode cX2_inspect 99 = .ok (.ireturn, 1) := by decide +kernel
theorem dX2_inspect_100 : decode cX2_inspect 100 = .ok (.aload_n 2, 1) := by decide +kernel
theorem dX2_inspect_101 : decode cX2_inspect 101 = .ok (.aload_n 0, 1) := by decide +kernel
theorem dX2_inspect_102 : decode cX2_inspect 102 = .ok (.aload_n 2, 1) := by decide +kernel
theorem dX2_inspect_103 : decode cX2_inspect 103 = .ok (.getfield 107, 3) := by decide +kernel
theorem dX2_inspect_106 : decode cX2_inspect 106 = .ok (.iconst 4, 1) := by decide +kernel
theorem dX2_inspect_107 : decode cX2_inspect 107 = .ok (.invokevirtual 99, 3) := by decide +kernel
theorem dX2_inspect_110 : decode cX2_inspect 110 = .ok (.putfield 110, 3) := by decide +kernel
theorem dX2_inspect_113 : decode cX2_inspect 113 = .ok (.aload_n 2, 1) := by decide +kernel
theorem dX2_inspect_114 : decode cX2_inspect 114 = .ok (.getfield 110, 3) := by decide +kernel
theorem dX2_inspect_117 : decode cX2_inspect 117 = .ok (.ifCond .ge 6, 3) := by decide +kernel
theorem dX2_inspect_120 : decode cX2_inspect 120 = .ok (.bipush (-2), 2) := by decide +kernel
theorem dX2_inspect_122 : decode cX2_inspect 122 = .ok (.ireturn, 1) := by decide +kernel
theorem dX2_inspect_123 : decode cX2_inspect 123 = .ok (.aload_n 2, 1) := by decide +kernel
theorem dX2_inspect_124 : decode cX2_inspect 124 = .ok (.aload_n 0, 1) := by decide +kernel
theorem dX2_inspect_125 : decode cX2_inspect 125 = .ok (.getfield 13, 3) := by decide +kernel
theorem dX2_inspect_128 : decode cX2_inspect 128 = .ok (.aload_n 2, 1) := by decide +kernel
theorem dX2_inspect_129 : decode cX2_inspect 129 = .ok (.getfield 110, 3) := by decide +kernel
theorem dX2_inspect_132 : decode cX2_inspect 132 = .ok (.aaload, 1) := by decide +kernel
theorem dX2_inspect_133 : decode cX2_inspect 133 = .ok (.getfield 113, 3) := by decide +kernel
theorem dX2_inspect_136 : decode cX2_inspect 136 = .ok (.iconst 1, 1) := by decide +kernel
theorem dX2_inspect_137 : decode cX2_inspect 137 = .ok (.iadd, 1) := by decide +kernel
theorem dX2_inspect_138 : decode cX2_inspect 138 = .ok (.putfield 113, 3) := by decide +kernel
theorem dX2_inspect_141 : decode cX2_inspect 141 = .ok (.aload_n 0, 1) := by decide +kernel
theorem dX2_inspect_142 : decode cX2_inspect 142 = .ok (.aload_n 2, 1) := by decide +kernel
theorem dX2_inspect_143 : decode cX2_inspect 143 = .ok (.invokevirtual 116, 3) := by decide +kernel
theorem dX2_inspect_146 : decode cX2_inspect 146 = .ok (.istore_n 3, 1) := by decide +kernel
theorem dX2_inspect_147 : decode cX2_inspect 147 = .ok (.iload_n 3, 1) := by decide +kernel
theorem dX2_inspect_148 : decode cX2_inspect 148 = .ok (.ifCond .eq 7, 3) := by decide +kernel
theorem dX2_inspect_151 : decode cX2_inspect 151 = .ok (.iload_n 3, 1) := by decide +kernel
theorem dX2_inspect_152 : decode cX2_inspect 152 = .ok (.goto 8, 3) := by decide +kernel
theorem dX2_inspect_155 : decode cX2_inspect 155 = .ok (.aload_n 0, 1) := by decide +kernel
theorem dX2_inspect_156 : decode cX2_inspect 156 = .ok (.aload_n 2, 1) := by decide +kernel
theorem dX2_inspect_157 : decode cX2_inspect 157 = .ok (.invokevirtual 120, 3) := by decide +kernel
theorem dX2_inspect_160 : decode cX2_inspect 160 = .ok (.ireturn, 1) := by decide +kernel
abbrev mX2_keep : ks_M := (RX2, cX2_keep, 2, (some .int), "keep")
theorem dX2_keep_0 : decode cX2_keep 0 = .ok (.aload_n 0, 1) := by decide +kernel
theorem dX2_keep_1 : decode cX2_keep 1 = .ok (.getfield 13, 3) := by decide +kernel
theorem dX2_keep_4 : decode cX2_keep 4 = .ok (.aload_n 0, 1) := by decide +kernel
theorem dX2_keep_5 : decode cX2_keep 5 = .ok (.getfield 78, 3) := by decide +kernel
theorem dX2_keep_8 : decode cX2_keep 8 = .ok (.aaload, 1) := by decide +kernel
theorem dX2_keep_9 : decode cX2_keep 9 = .ok (.astore_n 1, 1) := by decide +kernel
theorem dX2_keep_10 : decode cX2_keep 10 = .ok (.aload_n 0, 1) := by decide +kernel
theorem dX2_keep_11 : decode cX2_keep 11 = .ok (.getfield 24, 3) := by decide +kernel
theorem dX2_keep_14 : decode cX2_keep 14 = .ok (.aload_n 1, 1) := by decide +kernel
theorem dX2_keep_15 : decode cX2_keep 15 = .ok (.invokevirtual 63, 3) := by decide +kernel
theorem dX2_keep_18 : decode cX2_keep 18 = .ok (.invokevirtual 67, 3) := by decide +kernel
theorem dX2_keep_21 : decode cX2_keep 21 = .ok (.pop, 1) := by decide +kernel
theorem dX2_keep_22 : decode cX2_keep 22 = .ok (.aload_n 1, 1) := by decide +kernel
theorem dX2_keep_23 : decode cX2_keep 23 = .ok (.aload_n 0, 1) := by decide +kernel
theorem dX2_keep_24 : decode cX2_keep 24 = .ok (.getfield 13, 3) := by decide +kernel
theorem dX2_keep_27 : decode cX2_keep 27 = .ok (.aload_n 1, 1) := by decide +kernel
theorem dX2_keep_28 : decode cX2_keep 28 = .ok (.getfield 110, 3) := by decide +kernel
theorem dX2_keep_31 : decode cX2_keep 31 = .ok (.aaload, 1) := by decide +kernel
theorem dX2_keep_32 : decode cX2_keep 32 = .ok (.getfield 75, 3) := by decide +kernel
theorem dX2_keep_35 : decode cX2_keep 35 = .ok (.aload_n 0, 1) := by decide +kernel
theorem dX2_keep_36 : decode cX2_keep 36 = .ok (.getfield 24, 3) := by decide +kernel
theorem dX2_keep_39 : decode cX2_keep 39 = .ok (.invokevirtual 71, 3) := by decide +kernel
theorem dX2_keep_42 : decode cX2_keep 42 = .ok (.ladd, 1) := by decide +kernel
theorem dX2_keep_43 : decode cX2_keep 43 = .ok (.putfield 75, 3) := by decide +kernel
theorem dX2_keep_46 : decode cX2_keep 46 = .ok (.aload_n 0, 1) := by decide +kernel
theorem dX2_keep_47 : decode cX2_keep 47 = .ok (.dup, 1) := by decide +kernel
theorem dX2_keep_48 : decode cX2_keep 48 = .ok (.getfield 78, 3) := by decide +kernel
theorem dX2_keep_51 : decode cX2_keep 51 = .ok (.iconst 1, 1) := by decide +kernel
theorem dX2_keep_52 : decode cX2_keep 52 = .ok (.iadd, 1) := by decide +kernel
theorem dX2_keep_53 : decode cX2_keep 53 = .ok (.putfield 78, 3) := by decide +kernel
theorem dX2_keep_56 : decode cX2_keep 56 = .ok (.aload_n 0, 1) := by decide +kernel
theorem dX2_keep_57 : decode cX2_keep 57 = .ok (.getfield 78, 3) := by decide +kernel
theorem dX2_keep_60 : decode cX2_keep 60 = .ok (.iconst 1, 1) := by decide +kernel
theorem dX2_keep_61 : decode cX2_keep 61 = .ok (.isub, 1) := by decide +kernel
theorem dX2_keep_62 : decode cX2_keep 62 = .ok (.ireturn, 1) := by decide +kernel
abbrev mX2_climb : ks_M := (RX2, cX2_climb, 4, (some .int), "climb")
theorem dX2_climb_0 : decode cX2_climb 0 = .ok (.iconst 0, 1) := by decide +kernel
theorem dX2_climb_1 : decode cX2_climb 1 = .ok (.istore_n 2, 1) := by decide +kernel
theorem dX2_climb_2 : decode cX2_climb 2 = .ok (.iload_n 1, 1) := by decide +kernel
theorem dX2_climb_3 : decode cX2_climb 3 = .ok (.istore_n 3, 1) := by decide +kernel
theorem dX2_climb_4 : decode cX2_climb 4 = .ok (.iload_n 3, 1) := by decide +kernel
theorem dX2_climb_5 : decode cX2_climb 5 = .ok (.ifCond .lt 47, 3) := by decide +kernel
theorem dX2_climb_8 : decode cX2_climb 8 = .ok (.iload_n 2, 1) := by decide +kernel
theorem dX2_climb_9 : decode cX2_climb 9 = .ok (.aload_n 0, 1) := by decide +kernel
theorem dX2_climb_10 : decode cX2_climb 10 = .ok (.getfield 17, 3) := by decide +kernel
theorem dX2_climb_13 : decode cX2_climb 13 = .ok (.arraylength, 1) := by decide +kernel
theorem dX2_climb_14 : decode cX2_climb 14 = .ok (.if_icmp .ge 38, 3) := by decide +kernel
theorem dX2_climb_17 : decode cX2_climb 17 = .ok (.aload_n 0, 1) := by decide +kernel
theorem dX2_climb_18 : decode cX2_climb 18 = .ok (.getfield 13, 3) := by decide +kernel
theorem dX2_climb_21 : decode cX2_climb 21 = .ok (.iload_n 3, 1) := by decide +kernel
theorem dX2_climb_22 : decode cX2_climb 22 = .ok (.aaload, 1) := by decide +kernel
theorem dX2_climb_23 : decode cX2_climb 23 = .ok (.getfield 95, 3) := by decide +kernel
theorem dX2_climb_26 : decode cX2_climb 26 = .ok (.ifnonnull 26, 3) := by decide +kernel
theorem dX2_climb_29 : decode cX2_climb 29 = .ok (.aload_n 0, 1) := by decide +kernel
theorem dX2_climb_30 : decode cX2_climb 30 = .ok (.getfield 17, 3) := by decide +kernel
theorem dX2_climb_33 : decode cX2_climb 33 = .ok (.iload_n 2, 1) := by decide +kernel
theorem dX2_climb_34 : decode cX2_climb 34 = .ok (.iload_n 3, 1) := by decide +kernel
theorem dX2_climb_35 : decode cX2_climb 35 = .ok (.iastore, 1) := by decide +kernel
theorem dX2_climb_36 : decode cX2_climb 36 = .ok (.iinc 2 1, 3) := by decide +kernel
theorem dX2_climb_39 : decode cX2_climb 39 = .ok (.aload_n 0, 1) := by decide +kernel
theorem dX2_climb_40 : decode cX2_climb 40 = .ok (.getfield 13, 3) := by decide +kernel
theorem dX2_climb_43 : decode cX2_climb 43 = .ok (.iload_n 3, 1) := by decide +kernel
theorem dX2_climb_44 : decode cX2_climb 44 = .ok (.aaload, 1) := by decide +kernel
theorem dX2_climb_45 : decode cX2_climb 45 = .ok (.getfield 110, 3) := by decide +kernel
theorem dX2_climb_48 : decode cX2_climb 48 = .ok (.istore_n 3, 1) := by decide +kernel
theorem dX2_climb_49 : decode cX2_climb 49 = .ok (.goto (-45), 3) := by decide +kernel
theorem dX2_climb_52 : decode cX2_climb 52 = .ok (.iload_n 2, 1) := by decide +kernel
theorem dX2_climb_53 : decode cX2_climb 53 = .ok (.ireturn, 1) := by decide +kernel
abbrev mX2_connect : ks_M := (RX2, cX2_connect, 14, (some .int), "connect")
theorem dX2_connect_0 : decode cX2_connect 0 = .ok (.aload_n 0, 1) := by decide +kernel
theorem dX2_connect_1 : decode cX2_connect 1 = .ok (.getfield 13, 3) := by decide +kernel
theorem dX2_connect_4 : decode cX2_connect 4 = .ok (.iload_n 1, 1) := by decide +kernel
theorem dX2_connect_5 : decode cX2_connect 5 = .ok (.aaload, 1) := by decide +kernel
theorem dX2_connect_6 : decode cX2_connect 6 = .ok (.astore_n 2, 1) := by decide +kernel
theorem dX2_connect_7 : decode cX2_connect 7 = .ok (.aload_n 0, 1) := by decide +kernel
theorem dX2_connect_8 : decode cX2_connect 8 = .ok (.aload_n 2, 1) := by decide +kernel
theorem dX2_connect_9 : decode cX2_connect 9 = .ok (.getfield 110, 3) := by decide +kernel
theorem dX2_connect_12 : decode cX2_connect 12 = .ok (.invokevirtual 123, 3) := by decide +kernel
theorem dX2_connect_15 : decode cX2_connect 15 = .ok (.lconst 0, 1) := by decide +kernel
theorem dX2_connect_16 : decode cX2_connect 16 = .ok (.lstore_n 3, 1) := by decide +kernel
theorem dX2_connect_17 : decode cX2_connect 17 = .ok (.lconst 0, 1) := by decide +kernel
theorem dX2_connect_18 : decode cX2_connect 18 = .ok (.lstore 5, 2) := by decide +kernel
theorem dX2_connect_20 : decode cX2_connect 20 = .ok (.iconst 0, 1) := by decide +kernel
theorem dX2_connect_21 : decode cX2_connect 21 = .ok (.istore 7, 2) := by decide +kernel
theorem dX2_connect_23 : decode cX2_connect 23 = .ok (.iload 7, 2) := by decide +kernel
theorem dX2_connect_25 : decode cX2_connect 25 = .ok (.aload_n 2, 1) := by decide +kernel
theorem dX2_connect_26 : decode cX2_connect 26 = .ok (.getfield 127, 3) := by decide +kernel
theorem dX2_connect_29 : decode cX2_connect 29 = .ok (.if_icmp .ge 211, 3) := by decide +kernel
theorem dX2_connect_32 : decode cX2_connect 32 = .ok (.aload_n 0, 1) := by decide +kernel
theorem dX2_connect_33 : decode cX2_connect 33 = .ok (.getfield 50, 3) := by decide +kernel
theorem dX2_connect_36 : decode cX2_connect 36 = .ok (.aload_n 2, 1) := by decide +kernel
theorem dX2_connect_37 : decode cX2_connect 37 = .ok (.getfield 107, 3) := by decide +kernel
theorem dX2_connect_40 : decode cX2_connect 40 = .ok (.aload_n 2, 1) := by decide +kernel
theorem dX2_connect_41 : decode cX2_connect 41 = .ok (.getfield 130, 3) := by decide +kernel
theorem dX2_connect_44 : decode cX2_connect 44 = .ok (.iload 7, 2) := by decide +kernel
theorem dX2_connect_46 : decode cX2_connect 46 = .ok (.iaload, 1) := by decide +kernel
theorem dX2_connect_47 : decode cX2_connect 47 = .ok (.aload_n 2, 1) := by decide +kernel
theorem dX2_connect_48 : decode cX2_connect 48 = .ok (.getfield 133, 3) := by decide +kernel
theorem dX2_connect_51 : decode cX2_connect 51 = .ok (.invokevirtual 136, 3) := by decide +kernel
theorem dX2_connect_54 : decode cX2_connect 54 = .ok (.pop, 1) := by decide +kernel
theorem dX2_connect_55 : decode cX2_connect 55 = .ok (.aload_n 0, 1) := by decide +kernel
theorem dX2_connect_56 : decode cX2_connect 56 = .ok (.getfield 50, 3) := by decide +kernel
theorem dX2_connect_59 : decode cX2_connect 59 = .ok (.invokevirtual 141, 3) := by decide +kernel
theorem dX2_connect_62 : decode cX2_connect 62 = .ok (.lstore 8, 2) := by decide +kernel
theorem dX2_connect_64 : decode cX2_connect 64 = .ok (.iload 7, 2) := by decide +kernel
theorem dX2_connect_66 : decode cX2_connect 66 = .ok (.ifCond .ne 9, 3) := by decide +kernel
theorem dX2_connect_69 : decode cX2_connect 69 = .ok (.lload 8, 2) := by decide +kernel
theorem dX2_connect_71 : decode cX2_connect 71 = .ok (.lstore_n 3, 1) := by decide +kernel
theorem dX2_connect_72 : decode cX2_connect 72 = .ok (.goto 142, 3) := by decide +kernel
theorem dX2_connect_75 : decode cX2_connect 75 = .ok (.aload_n 0, 1) := by decide +kernel
theorem dX2_connect_76 : decode cX2_connect 76 = .ok (.aload_n 2, 1) := by decide +kernel
theorem dX2_connect_77 : decode cX2_connect 77 = .ok (.getfield 113, 3) := by decide +kernel
theorem dX2_connect_80 : decode cX2_connect 80 = .ok (.invokevirtual 144, 3) := by decide +kernel
theorem dX2_connect_83 : decode cX2_connect 83 = .ok (.istore 10, 2) := by decide +kernel
theorem dX2_connect_85 : decode cX2_connect 85 = .ok (.iload 10, 2) := by decide +kernel
theorem dX2_connect_87 : decode cX2_connect 87 = .ok (.ifCond .ne 13, 3) := by decide +kernel
theorem dX2_connect_90 : decode cX2_connect 90 = .ok (.aload_n 0, 1) := by decide +kernel
theorem dX2_connect_91 : decode cX2_connect 91 = .ok (.getfield 148, 3) := by decide +kernel
theorem dX2_connect_94 : decode cX2_connect 94 = .ok (.lload 8, 2) := by decide +kernel
theorem dX2_connect_96 : decode cX2_connect 96 = .ok (.lcmp, 1) := by decide +kernel
theorem dX2_connect_97 : decode cX2_connect 97 = .ok (.ifCond .ge 16, 3) := by decide +kernel
theorem dX2_connect_100 : decode cX2_connect 100 = .ok (.iload 10, 2) := by decide +kernel
theorem dX2_connect_102 : decode cX2_connect 102 = .ok (.ifCond .eq 8, 3) := by decide +kernel
theorem dX2_connect_105 : decode cX2_connect 105 = .ok (.iload 10, 2) := by decide +kernel
theorem dX2_connect_107 : decode cX2_connect 107 = .ok (.goto 5, 3) := by decide +kernel
theorem dX2_connect_110 : decode cX2_connect 110 = .ok (.bipush 13, 2) := by decide +kernel
theorem dX2_connect_112 : decode cX2_connect 112 = .ok (.ireturn, 1) := by decide +kernel
theorem dX2_connect_113 : decode cX2_connect 113 = .ok (.iconst 0, 1) := by decide +kernel
theorem dX2_connect_114 : decode cX2_connect 114 = .ok (.istore 11, 2) := by decide +kernel
theorem dX2_connect_116 : decode cX2_connect 116 = .ok (.iload 11, 2) := by decide +kernel
theorem dX2_connect_118 : decode cX2_connect 118 = .ok (.aload_n 0, 1) := by decide +kernel
theorem dX2_connect_119 : decode cX2_connect 119 = .ok (.getfield 50, 3) := by decide +kernel
theorem dX2_connect_122 : decode cX2_connect 122 = .ok (.getfield 151, 3) := by decide +kernel
theorem dX2_connect_125 : decode cX2_connect 125 = .ok (.if_icmp .ge 73, 3) := by decide +kernel
theorem dX2_connect_128 : decode cX2_connect 128 = .ok (.aload_n 0, 1) := by decide +kernel
theorem dX2_connect_129 : decode cX2_connect 129 = .ok (.getfield 36, 3) := by decide +kernel
theorem dX2_connect_132 : decode cX2_connect 132 = .ok (.aload_n 0, 1) := by decide +kernel
theorem dX2_connect_133 : decode cX2_connect 133 = .ok (.getfield 39, 3) := by decide +kernel
theorem dX2_connect_136 : decode cX2_connect 136 = .ok (.iload 11, 2) := by decide +kernel
theorem dX2_connect_138 : decode cX2_connect 138 = .ok (.iaload, 1) := by decide +kernel
theorem dX2_connect_139 : decode cX2_connect 139 = .ok (.iaload, 1) := by decide +kernel
theorem dX2_connect_140 : decode cX2_connect 140 = .ok (.istore 12, 2) := by decide +kernel
theorem dX2_connect_142 : decode cX2_connect 142 = .ok (.aload_n 0, 1) := by decide +kernel
theorem dX2_connect_143 : decode cX2_connect 143 = .ok (.getfield 13, 3) := by decide +kernel
theorem dX2_connect_146 : decode cX2_connect 146 = .ok (.iload 12, 2) := by decide +kernel
theorem dX2_connect_148 : decode cX2_connect 148 = .ok (.invokestatic 154, 3) := by decide +kernel
theorem dX2_connect_151 : decode cX2_connect 151 = .ok (.aaload, 1) := by decide +kernel
theorem dX2_connect_152 : decode cX2_connect 152 = .ok (.getfield 107, 3) := by decide +kernel
theorem dX2_connect_155 : decode cX2_connect 155 = .ok (.astore 13, 2) := by decide +kernel
theorem dX2_connect_157 : decode cX2_connect 157 = .ok (.aload_n 0, 1) := by decide +kernel
theorem dX2_connect_158 : decode cX2_connect 158 = .ok (.getfield 46, 3) := by decide +kernel
theorem dX2_connect_161 : decode cX2_connect 161 = .ok (.aload_n 0, 1) := by decide +kernel
theorem dX2_connect_162 : decode cX2_connect 162 = .ok (.getfield 50, 3) := by decide +kernel
theorem dX2_connect_165 : decode cX2_connect 165 = .ok (.iload 11, 2) := by decide +kernel
theorem dX2_connect_167 : decode cX2_connect 167 = .ok (.aload 13, 2) := by decide +kernel
theorem dX2_connect_169 : decode cX2_connect 169 = .ok (.aload 13, 2) := by decide +kernel
theorem dX2_connect_171 : decode cX2_connect 171 = .ok (.iload 12, 2) := by decide +kernel
theorem dX2_connect_173 : decode cX2_connect 173 = .ok (.invokestatic 157, 3) := by decide +kernel
theorem dX2_connect_176 : decode cX2_connect 176 = .ok (.aload 13, 2) := by decide +kernel
theorem dX2_connect_178 : decode cX2_connect 178 = .ok (.iload 12, 2) := by decide +kernel
theorem dX2_connect_180 : decode cX2_connect 180 = .ok (.invokestatic 160, 3) := by decide +kernel
theorem dX2_connect_183 : decode cX2_connect 183 = .ok (.invokevirtual 163, 3) := by decide +kernel
theorem dX2_connect_186 : decode cX2_connect 186 = .ok (.ifCond .ne 6, 3) := by decide +kernel
theorem dX2_connect_189 : decode cX2_connect 189 = .ok (.bipush 14, 2) := by decide +kernel
theorem dX2_connect_191 : decode cX2_connect 191 = .ok (.ireturn, 1) := by decide +kernel
theorem dX2_connect_192 : decode cX2_connect 192 = .ok (.iinc 11 1, 3) := by decide +kernel
theorem dX2_connect_195 : decode cX2_connect 195 = .ok (.goto (-79), 3) := by decide +kernel
theorem dX2_connect_198 : decode cX2_connect 198 = .ok (.aload_n 0, 1) := by decide +kernel
theorem dX2_connect_199 : decode cX2_connect 199 = .ok (.invokevirtual 169, 3) := by decide +kernel
theorem dX2_connect_202 : decode cX2_connect 202 = .ok (.lload 5, 2) := by decide +kernel
theorem dX2_connect_204 : decode cX2_connect 204 = .ok (.aload_n 0, 1) := by decide +kernel
theorem dX2_connect_205 : decode cX2_connect 205 = .ok (.getfield 148, 3) := by decide +kernel
theorem dX2_connect_208 : decode cX2_connect 208 = .ok (.lload 8, 2) := by decide +kernel
theorem dX2_connect_210 : decode cX2_connect 210 = .ok (.lsub, 1) := by decide +kernel
theorem dX2_connect_211 : decode cX2_connect 211 = .ok (.ladd, 1) := by decide +kernel
theorem dX2_connect_212 : decode cX2_connect 212 = .ok (.lstore 5, 2) := by decide +kernel
theorem dX2_connect_214 : decode cX2_connect 214 = .ok (.aload_n 0, 1) := by decide +kernel
theorem dX2_connect_215 : decode cX2_connect 215 = .ok (.iload_n 1, 1) := by decide +kernel
theorem dX2_connect_216 : decode cX2_connect 216 = .ok (.iload 7, 2) := by decide +kernel
theorem dX2_connect_218 : decode cX2_connect 218 = .ok (.invokevirtual 82, 3) := by decide +kernel
theorem dX2_connect_221 : decode cX2_connect 221 = .ok (.aload_n 0, 1) := by decide +kernel
theorem dX2_connect_222 : decode cX2_connect 222 = .ok (.getfield 86, 3) := by decide +kernel
theorem dX2_connect_225 : decode cX2_connect 225 = .ok (.sipush 400, 3) := by decide +kernel
theorem dX2_connect_228 : decode cX2_connect 228 = .ok (.if_icmp .le 6, 3) := by decide +kernel
theorem dX2_connect_231 : decode cX2_connect 231 = .ok (.bipush 16, 2) := by decide +kernel
theorem dX2_connect_233 : decode cX2_connect 233 = .ok (.ireturn, 1) := by decide +kernel
theorem dX2_connect_234 : decode cX2_connect 234 = .ok (.iinc 7 1, 3) := by decide +kernel
theorem dX2_connect_237 : decode cX2_connect 237 = .ok (.goto (-214), 3) := by decide +kernel
theorem dX2_connect_240 : decode cX2_connect 240 = .ok (.lload_n 3, 1) := by decide +kernel
theorem dX2_connect_241 : decode cX2_connect 241 = .ok (.ldc2_w 172, 3) := by decide +kernel
theorem dX2_connect_244 : decode cX2_connect 244 = .ok (.aload_n 2, 1) := by decide +kernel
theorem dX2_connect_245 : decode cX2_connect 245 = .ok (.getfield 113, 3) := by decide +kernel
theorem dX2_connect_248 : decode cX2_connect 248 = .ok (.bipush 12, 2) := by decide +kernel
theorem dX2_connect_250 : decode cX2_connect 250 = .ok (.idiv, 1) := by decide +kernel
theorem dX2_connect_251 : decode cX2_connect 251 = .ok (.lshr, 1) := by decide +kernel
theorem dX2_connect_252 : decode cX2_connect 252 = .ok (.lload 5, 2) := by decide +kernel
theorem dX2_connect_254 : decode cX2_connect 254 = .ok (.ladd, 1) := by decide +kernel
theorem dX2_connect_255 : decode cX2_connect 255 = .ok (.lcmp, 1) := by decide +kernel
theorem dX2_connect_256 : decode cX2_connect 256 = .ok (.ifCond .le 6, 3) := by decide +kernel
theorem dX2_connect_259 : decode cX2_connect 259 = .ok (.bipush 15, 2) := by decide +kernel
theorem dX2_connect_261 : decode cX2_connect 261 = .ok (.ireturn, 1) := by decide +kernel
theorem dX2_connect_262 : decode cX2_connect 262 = .ok (.aload_n 2, 1) := by decide +kernel
theorem dX2_connect_263 : decode cX2_connect 263 = .ok (.aload_n 0, 1) := by decide +kernel
theorem dX2_connect_264 : decode cX2_connect 264 = .ok (.getfield 36, 3) := by decide +kernel
theorem dX2_connect_267 : decode cX2_connect 267 = .ok (.aload_n 0, 1) := by decide +kernel
theorem dX2_connect_268 : decode cX2_connect 268 = .ok (.getfield 86, 3) := by decide +kernel
theorem dX2_connect_271 : decode cX2_connect 271 = .ok (.invokestatic 89, 3) := by decide +kernel
theorem dX2_connect_274 : decode cX2_connect 274 = .ok (.putfield 95, 3) := by decide +kernel
theorem dX2_connect_277 : decode cX2_connect 277 = .ok (.iconst 0, 1) := by decide +kernel
theorem dX2_connect_278 : decode cX2_connect 278 = .ok (.ireturn, 1) := by decide +kernel
abbrev mX2_spoil : ks_M := (RX2, cX2_spoil, 3, none, "spoil")
theorem dX2_spoil_0 : decode cX2_spoil 0 = .ok (.aload_n 0, 1) := by decide +kernel
theorem dX2_spoil_1 : decode cX2_spoil 1 = .ok (.getfield 13, 3) := by decide +kernel
theorem dX2_spoil_4 : decode cX2_spoil 4 = .ok (.iload_n 1, 1) := by decide +kernel
theorem dX2_spoil_5 : decode cX2_spoil 5 = .ok (.aaload, 1) := by decide +kernel
theorem dX2_spoil_6 : decode cX2_spoil 6 = .ok (.iconst 1, 1) := by decide +kernel
theorem dX2_spoil_7 : decode cX2_spoil 7 = .ok (.putfield 174, 3) := by decide +kernel
theorem dX2_spoil_10 : decode cX2_spoil 10 = .ok (.iload_n 1, 1) := by decide +kernel
theorem dX2_spoil_11 : decode cX2_spoil 11 = .ok (.iconst 1, 1) := by decide +kernel
theorem dX2_spoil_12 : decode cX2_spoil 12 = .ok (.iadd, 1) := by decide +kernel
theorem dX2_spoil_13 : decode cX2_spoil 13 = .ok (.istore_n 2, 1) := by decide +kernel
theorem dX2_spoil_14 : decode cX2_spoil 14 = .ok (.iload_n 2, 1) := by decide +kernel
theorem dX2_spoil_15 : decode cX2_spoil 15 = .ok (.aload_n 0, 1) := by decide +kernel
theorem dX2_spoil_16 : decode cX2_spoil 16 = .ok (.getfield 78, 3) := by decide +kernel
theorem dX2_spoil_19 : decode cX2_spoil 19 = .ok (.if_icmp .ge 39, 3) := by decide +kernel
theorem dX2_spoil_22 : decode cX2_spoil 22 = .ok (.aload_n 0, 1) := by decide +kernel
theorem dX2_spoil_23 : decode cX2_spoil 23 = .ok (.getfield 13, 3) := by decide +kernel
theorem dX2_spoil_26 : decode cX2_spoil 26 = .ok (.aload_n 0, 1) := by decide +kernel
theorem dX2_spoil_27 : decode cX2_spoil 27 = .ok (.getfield 13, 3) := by decide +kernel
theorem dX2_spoil_30 : decode cX2_spoil 30 = .ok (.iload_n 2, 1) := by decide +kernel
theorem dX2_spoil_31 : decode cX2_spoil 31 = .ok (.aaload, 1) := by decide +kernel
theorem dX2_spoil_32 : decode cX2_spoil 32 = .ok (.getfield 110, 3) := by decide +kernel
theorem dX2_spoil_35 : decode cX2_spoil 35 = .ok (.aaload, 1) := by decide +kernel
theorem dX2_spoil_36 : decode cX2_spoil 36 = .ok (.getfield 174, 3) := by decide +kernel
theorem dX2_spoil_39 : decode cX2_spoil 39 = .ok (.ifCond .eq 13, 3) := by decide +kernel
theorem dX2_spoil_42 : decode cX2_spoil 42 = .ok (.aload_n 0, 1) := by decide +kernel
theorem dX2_spoil_43 : decode cX2_spoil 43 = .ok (.getfield 13, 3) := by decide +kernel
theorem dX2_spoil_46 : decode cX2_spoil 46 = .ok (.iload_n 2, 1) := by decide +kernel
theorem dX2_spoil_47 : decode cX2_spoil 47 = .ok (.aaload, 1) := by decide +kernel
theorem dX2_spoil_48 : decode cX2_spoil 48 = .ok (.iconst 1, 1) := by decide +kernel
theorem dX2_spoil_49 : decode cX2_spoil 49 = .ok (.putfield 174, 3) := by decide +kernel
theorem dX2_spoil_52 : decode cX2_spoil 52 = .ok (.iinc 2 1, 3) := by decide +kernel
theorem dX2_spoil_55 : decode cX2_spoil 55 = .ok (.goto (-41), 3) := by decide +kernel
theorem dX2_spoil_58 : decode cX2_spoil 58 = .ok (.return_, 1) := by decide +kernel
abbrev mX2_standing : ks_M := (RX2, cX2_standing, 4, (some .int), "standing")
theorem dX2_standing_0 : decode cX2_standing 0 = .ok (.aload_n 0, 1) := by decide +kernel
theorem dX2_standing_1 : decode cX2_standing 1 = .ok (.getfield 13, 3) := by decide +kernel
theorem dX2_standing_4 : decode cX2_standing 4 = .ok (.iload_n 1, 1) := by decide +kernel
theorem dX2_standing_5 : decode cX2_standing 5 = .ok (.aaload, 1) := by decide +kernel
theorem dX2_standing_6 : decode cX2_standing 6 = .ok (.getfield 174, 3) := by decide +kernel
theorem dX2_standing_9 : decode cX2_standing 9 = .ok (.ifCond .eq 5, 3) := by decide +kernel
theorem dX2_standing_12 : decode cX2_standing 12 = .ok (.iconst 2, 1) := by decide +kernel
theorem dX2_standing_13 : decode cX2_standing 13 = .ok (.ireturn, 1) := by decide +kernel
theorem dX2_standing_14 : decode cX2_standing 14 = .ok (.aload_n 0, 1) := by decide +kernel
theorem dX2_standing_15 : decode cX2_standing 15 = .ok (.getfield 178, 3) := by decide +kernel
theorem dX2_standing_18 : decode cX2_standing 18 = .ok (.istore_n 2, 1) := by decide +kernel
theorem dX2_standing_19 : decode cX2_standing 19 = .ok (.iconst 0, 1) := by decide +kernel
theorem dX2_standing_20 : decode cX2_standing 20 = .ok (.istore_n 3, 1) := by decide +kernel
theorem dX2_standing_21 : decode cX2_standing 21 = .ok (.iload_n 3, 1) := by decide +kernel
theorem dX2_standing_22 : decode cX2_standing 22 = .ok (.aload_n 0, 1) := by decide +kernel
theorem dX2_standing_23 : decode cX2_standing 23 = .ok (.getfield 78, 3) := by decide +kernel
theorem dX2_standing_26 : decode cX2_standing 26 = .ok (.if_icmp .ge 24, 3) := by decide +kernel
theorem dX2_standing_29 : decode cX2_standing 29 = .ok (.iload_n 2, 1) := by decide +kernel
theorem dX2_standing_30 : decode cX2_standing 30 = .ok (.iload_n 1, 1) := by decide +kernel
theorem dX2_standing_31 : decode cX2_standing 31 = .ok (.if_icmp .le 19, 3) := by decide +kernel
theorem dX2_standing_34 : decode cX2_standing 34 = .ok (.aload_n 0, 1) := by decide +kernel
theorem dX2_standing_35 : decode cX2_standing 35 = .ok (.getfield 13, 3) := by decide +kernel
theorem dX2_standing_38 : decode cX2_standing 38 = .ok (.iload_n 2, 1) := by decide +kernel
theorem dX2_standing_39 : decode cX2_standing 39 = .ok (.aaload, 1) := by decide +kernel
theorem dX2_standing_40 : decode cX2_standing 40 = .ok (.getfield 110, 3) := by decide +kernel
theorem dX2_standing_43 : decode cX2_standing 43 = .ok (.istore_n 2, 1) := by decide +kernel
theorem dX2_standing_44 : decode cX2_standing 44 = .ok (.iinc 3 1, 3) := by decide +kernel
theorem dX2_standing_47 : decode cX2_standing 47 = .ok (.goto (-26), 3) := by decide +kernel
theorem dX2_standing_50 : decode cX2_standing 50 = .ok (.iload_n 2, 1) := by decide +kernel
theorem dX2_standing_51 : decode cX2_standing 51 = .ok (.iload_n 1, 1) := by decide +kernel
theorem dX2_standing_52 : decode cX2_standing 52 = .ok (.if_icmp .ne 7, 3) := by decide +kernel
theorem dX2_standing_55 : decode cX2_standing 55 = .ok (.iconst 1, 1) := by decide +kernel
theorem dX2_standing_56 : decode cX2_standing 56 = .ok (.goto 4, 3) := by decide +kernel
theorem dX2_standing_59 : decode cX2_standing 59 = .ok (.iconst 0, 1) := by decide +kernel
theorem dX2_standing_60 : decode cX2_standing 60 = .ok (.ireturn, 1) := by decide +kernel
abbrev mX2_dueBits : ks_M := (RX2, cX2_dueBits, 5, (some .int), "dueBits")
theorem dX2_dueBits_0 : decode cX2_dueBits 0 = .ok (.aload_n 0, 1) := by decide +kernel
theorem dX2_dueBits_1 : decode cX2_dueBits 1 = .ok (.getfield 13, 3) := by decide +kernel
theorem dX2_dueBits_4 : decode cX2_dueBits 4 = .ok (.iload_n 1, 1) := by decide +kernel
theorem dX2_dueBits_5 : decode cX2_dueBits 5 = .ok (.aaload, 1) := by decide +kernel
theorem dX2_dueBits_6 : decode cX2_dueBits 6 = .ok (.astore_n 2, 1) := by decide +kernel
theorem dX2_dueBits_7 : decode cX2_dueBits 7 = .ok (.aload_n 2, 1) := by decide +kernel
theorem dX2_dueBits_8 : decode cX2_dueBits 8 = .ok (.getfield 113, 3) := by decide +kernel
theorem dX2_dueBits_11 : decode cX2_dueBits 11 = .ok (.iconst 1, 1) := by decide +kernel
theorem dX2_dueBits_12 : decode cX2_dueBits 12 = .ok (.iadd, 1) := by decide +kernel
theorem dX2_dueBits_13 : decode cX2_dueBits 13 = .ok (.bipush 8, 2) := by decide +kernel
theorem dX2_dueBits_15 : decode cX2_dueBits 15 = .ok (.irem, 1) := by decide +kernel
theorem dX2_dueBits_16 : decode cX2_dueBits 16 = .ok (.ifCond .eq 8, 3) := by decide +kernel
theorem dX2_dueBits_19 : decode cX2_dueBits 19 = .ok (.aload_n 2, 1) := by decide +kernel
theorem dX2_dueBits_20 : decode cX2_dueBits 20 = .ok (.invokevirtual 63, 3) := by decide +kernel
theorem dX2_dueBits_23 : decode cX2_dueBits 23 = .ok (.ireturn, 1) := by decide +kernel
theorem dX2_dueBits_24 : decode cX2_dueBits 24 = .ok (.aload_n 2, 1) := by decide +kernel
theorem dX2_dueBits_25 : decode cX2_dueBits 25 = .ok (.astore_n 3, 1) := by decide +kernel
theorem dX2_dueBits_26 : decode cX2_dueBits 26 = .ok (.iconst 1, 1) := by decide +kernel
theorem dX2_dueBits_27 : decode cX2_dueBits 27 = .ok (.istore 4, 2) := by decide +kernel
theorem dX2_dueBits_29 : decode cX2_dueBits 29 = .ok (.iload 4, 2) := by decide +kernel
theorem dX2_dueBits_31 : decode cX2_dueBits 31 = .ok (.bipush 8, 2) := by decide +kernel
theorem dX2_dueBits_33 : decode cX2_dueBits 33 = .ok (.if_icmp .ge 26, 3) := by decide +kernel
theorem dX2_dueBits_36 : decode cX2_dueBits 36 = .ok (.aload_n 3, 1) := by decide +kernel
theorem dX2_dueBits_37 : decode cX2_dueBits 37 = .ok (.getfield 110, 3) := by decide +kernel
theorem dX2_dueBits_40 : decode cX2_dueBits 40 = .ok (.ifCond .lt 19, 3) := by decide +kernel
theorem dX2_dueBits_43 : decode cX2_dueBits 43 = .ok (.aload_n 0, 1) := by decide +kernel
theorem dX2_dueBits_44 : decode cX2_dueBits 44 = .ok (.getfield 13, 3) := by decide +kernel
theorem dX2_dueBits_47 : decode cX2_dueBits 47 = .ok (.aload_n 3, 1) := by decide +kernel
theorem dX2_dueBits_48 : decode cX2_dueBits 48 = .ok (.getfield 110, 3) := by decide +kernel
theorem dX2_dueBits_51 : decode cX2_dueBits 51 = .ok (.aaload, 1) := by decide +kernel
theorem dX2_dueBits_52 : decode cX2_dueBits 52 = .ok (.astore_n 3, 1) := by decide +kernel
theorem dX2_dueBits_53 : decode cX2_dueBits 53 = .ok (.iinc 4 1, 3) := by decide +kernel
theorem dX2_dueBits_56 : decode cX2_dueBits 56 = .ok (.goto (-27), 3) := by decide +kernel
theorem dX2_dueBits_59 : decode cX2_dueBits 59 = .ok (.aload_n 0, 1) := by decide +kernel
theorem dX2_dueBits_60 : decode cX2_dueBits 60 = .ok (.getfield 24, 3) := by decide +kernel
theorem dX2_dueBits_63 : decode cX2_dueBits 63 = .ok (.aload_n 2, 1) := by decide +kernel
theorem dX2_dueBits_64 : decode cX2_dueBits 64 = .ok (.invokevirtual 63, 3) := by decide +kernel
theorem dX2_dueBits_67 : decode cX2_dueBits 67 = .ok (.invokevirtual 67, 3) := by decide +kernel
theorem dX2_dueBits_70 : decode cX2_dueBits 70 = .ok (.pop, 1) := by decide +kernel
theorem dX2_dueBits_71 : decode cX2_dueBits 71 = .ok (.aload_n 0, 1) := by decide +kernel
theorem dX2_dueBits_72 : decode cX2_dueBits 72 = .ok (.getfield 24, 3) := by decide +kernel
theorem dX2_dueBits_75 : decode cX2_dueBits 75 = .ok (.aload_n 2, 1) := by decide +kernel
theorem dX2_dueBits_76 : decode cX2_dueBits 76 = .ok (.invokevirtual 181, 3) := by decide +kernel
theorem dX2_dueBits_79 : decode cX2_dueBits 79 = .ok (.aload_n 3, 1) := by decide +kernel
theorem dX2_dueBits_80 : decode cX2_dueBits 80 = .ok (.invokevirtual 181, 3) := by decide +kernel
theorem dX2_dueBits_83 : decode cX2_dueBits 83 = .ok (.lsub, 1) := by decide +kernel
theorem dX2_dueBits_84 : decode cX2_dueBits 84 = .ok (.invokevirtual 184, 3) := by decide +kernel
theorem dX2_dueBits_87 : decode cX2_dueBits 87 = .ok (.aload_n 0, 1) := by decide +kernel
theorem dX2_dueBits_88 : decode cX2_dueBits 88 = .ok (.getfield 24, 3) := by decide +kernel
theorem dX2_dueBits_91 : decode cX2_dueBits 91 = .ok (.invokevirtual 188, 3) := by decide +kernel
theorem dX2_dueBits_94 : decode cX2_dueBits 94 = .ok (.ireturn, 1) := by decide +kernel
abbrev mX2_middle : ks_M := (RX2, cX2_middle, 7, (some .long), "middle")
theorem dX2_middle_0 : decode cX2_middle 0 = .ok (.iconst 0, 1) := by decide +kernel
theorem dX2_middle_1 : decode cX2_middle 1 = .ok (.istore_n 2, 1) := by decide +kernel
theorem dX2_middle_2 : decode cX2_middle 2 = .ok (.iload_n 1, 1) := by decide +kernel
theorem dX2_middle_3 : decode cX2_middle 3 = .ok (.istore_n 3, 1) := by decide +kernel
theorem dX2_middle_4 : decode cX2_middle 4 = .ok (.iload_n 3, 1) := by decide +kernel
theorem dX2_middle_5 : decode cX2_middle 5 = .ok (.ifCond .lt 90, 3) := by decide +kernel
theorem dX2_middle_8 : decode cX2_middle 8 = .ok (.iload_n 2, 1) := by decide +kernel
theorem dX2_middle_9 : decode cX2_middle 9 = .ok (.bipush 11, 2) := by decide +kernel
theorem dX2_middle_11 : decode cX2_middle 11 = .ok (.if_icmp .ge 84, 3) := by decide +kernel
theorem dX2_middle_14 : decode cX2_middle 14 = .ok (.aload_n 0, 1) := by decide +kernel
theorem dX2_middle_15 : decode cX2_middle 15 = .ok (.getfield 13, 3) := by decide +kernel
theorem dX2_middle_18 : decode cX2_middle 18 = .ok (.iload_n 3, 1) := by decide +kernel
theorem dX2_middle_19 : decode cX2_middle 19 = .ok (.aaload, 1) := by decide +kernel
theorem dX2_middle_20 : decode cX2_middle 20 = .ok (.invokevirtual 181, 3) := by decide +kernel
theorem dX2_middle_23 : decode cX2_middle 23 = .ok (.lstore 4, 2) := by decide +kernel
theorem dX2_middle_25 : decode cX2_middle 25 = .ok (.iload_n 2, 1) := by decide +kernel
theorem dX2_middle_26 : decode cX2_middle 26 = .ok (.istore 6, 2) := by decide +kernel
theorem dX2_middle_28 : decode cX2_middle 28 = .ok (.iload 6, 2) := by decide +kernel
theorem dX2_middle_30 : decode cX2_middle 30 = .ok (.ifCond .le 40, 3) := by decide +kernel
theorem dX2_middle_33 : decode cX2_middle 33 = .ok (.aload_n 0, 1) := by decide +kernel
theorem dX2_middle_34 : decode cX2_middle 34 = .ok (.getfield 28, 3) := by decide +kernel
theorem dX2_middle_37 : decode cX2_middle 37 = .ok (.iload 6, 2) := by decide +kernel
theorem dX2_middle_39 : decode cX2_middle 39 = .ok (.iconst 1, 1) := by decide +kernel
theorem dX2_middle_40 : decode cX2_middle 40 = .ok (.isub, 1) := by decide +kernel
theorem dX2_middle_41 : decode cX2_middle 41 = .ok (.laload, 1) := by decide +kernel
theorem dX2_middle_42 : decode cX2_middle 42 = .ok (.lload 4, 2) := by decide +kernel
theorem dX2_middle_44 : decode cX2_middle 44 = .ok (.lcmp, 1) := by decide +kernel
theorem dX2_middle_45 : decode cX2_middle 45 = .ok (.ifCond .le 25, 3) := by decide +kernel
theorem dX2_middle_48 : decode cX2_middle 48 = .ok (.aload_n 0, 1) := by decide +kernel
theorem dX2_middle_49 : decode cX2_middle 49 = .ok (.getfield 28, 3) := by decide +kernel
theorem dX2_middle_52 : decode cX2_middle 52 = .ok (.iload 6, 2) := by decide +kernel
theorem dX2_middle_54 : decode cX2_middle 54 = .ok (.aload_n 0, 1) := by decide +kernel
theorem dX2_middle_55 : decode cX2_middle 55 = .ok (.getfield 28, 3) := by decide +kernel
theorem dX2_middle_58 : decode cX2_middle 58 = .ok (.iload 6, 2) := by decide +kernel
theorem dX2_middle_60 : decode cX2_middle 60 = .ok (.iconst 1, 1) := by decide +kernel
theorem dX2_middle_61 : decode cX2_middle 61 = .ok (.isub, 1) := by decide +kernel
theorem dX2_middle_62 : decode cX2_middle 62 = .ok (.laload, 1) := by decide +kernel
theorem dX2_middle_63 : decode cX2_middle 63 = .ok (.lastore, 1) := by decide +kernel
theorem dX2_middle_64 : decode cX2_middle 64 = .ok (.iinc 6 (-1), 3) := by decide +kernel
theorem dX2_middle_67 : decode cX2_middle 67 = .ok (.goto (-39), 3) := by decide +kernel
theorem dX2_middle_70 : decode cX2_middle 70 = .ok (.aload_n 0, 1) := by decide +kernel
theorem dX2_middle_71 : decode cX2_middle 71 = .ok (.getfield 28, 3) := by decide +kernel
theorem dX2_middle_74 : decode cX2_middle 74 = .ok (.iload 6, 2) := by decide +kernel
theorem dX2_middle_76 : decode cX2_middle 76 = .ok (.lload 4, 2) := by decide +kernel
theorem dX2_middle_78 : decode cX2_middle 78 = .ok (.lastore, 1) := by decide +kernel
theorem dX2_middle_79 : decode cX2_middle 79 = .ok (.iinc 2 1, 3) := by decide +kernel
theorem dX2_middle_82 : decode cX2_middle 82 = .ok (.aload_n 0, 1) := by decide +kernel
theorem dX2_middle_83 : decode cX2_middle 83 = .ok (.getfield 13, 3) := by decide +kernel
theorem dX2_middle_86 : decode cX2_middle 86 = .ok (.iload_n 3, 1) := by decide +kernel
theorem dX2_middle_87 : decode cX2_middle 87 = .ok (.aaload, 1) := by decide +kernel
theorem dX2_middle_88 : decode cX2_middle 88 = .ok (.getfield 110, 3) := by decide +kernel
theorem dX2_middle_91 : decode cX2_middle 91 = .ok (.istore_n 3, 1) := by decide +kernel
theorem dX2_middle_92 : decode cX2_middle 92 = .ok (.goto (-88), 3) := by decide +kernel
theorem dX2_middle_95 : decode cX2_middle 95 = .ok (.aload_n 0, 1) := by decide +kernel
theorem dX2_middle_96 : decode cX2_middle 96 = .ok (.getfield 28, 3) := by decide +kernel
theorem dX2_middle_99 : decode cX2_middle 99 = .ok (.iload_n 2, 1) := by decide +kernel
theorem dX2_middle_100 : decode cX2_middle 100 = .ok (.iconst 2, 1) := by decide +kernel
theorem dX2_middle_101 : decode cX2_middle 101 = .ok (.idiv, 1) := by decide +kernel
theorem dX2_middle_102 : decode cX2_middle 102 = .ok (.laload, 1) := by decide +kernel
theorem dX2_middle_103 : decode cX2_middle 103 = .ok (.lreturn, 1) := by decide +kernel
abbrev mX2_valueOf : ks_M := (RX2, cX2_valueOf, 6, (some .long), "valueOf")
theorem dX2_valueOf_0 : decode cX2_valueOf 0 = .ok (.aload_n 0, 1) := by decide +kernel
theorem dX2_valueOf_1 : decode cX2_valueOf 1 = .ok (.getfield 13, 3) := by decide +kernel
theorem dX2_valueOf_4 : decode cX2_valueOf 4 = .ok (.aload_n 0, 1) := by decide +kernel
theorem dX2_valueOf_5 : decode cX2_valueOf 5 = .ok (.getfield 178, 3) := by decide +kernel
theorem dX2_valueOf_8 : decode cX2_valueOf 8 = .ok (.aaload, 1) := by decide +kernel
theorem dX2_valueOf_9 : decode cX2_valueOf 9 = .ok (.getfield 95, 3) := by decide +kernel
theorem dX2_valueOf_12 : decode cX2_valueOf 12 = .ok (.astore 4, 2) := by decide +kernel
theorem dX2_valueOf_14 : decode cX2_valueOf 14 = .ok (.aload_n 0, 1) := by decide +kernel
theorem dX2_valueOf_15 : decode cX2_valueOf 15 = .ok (.aload 4, 2) := by decide +kernel
theorem dX2_valueOf_17 : decode cX2_valueOf 17 = .ok (.aload 4, 2) := by decide +kernel
theorem dX2_valueOf_19 : decode cX2_valueOf 19 = .ok (.arraylength, 1) := by decide +kernel
theorem dX2_valueOf_20 : decode cX2_valueOf 20 = .ok (.aload_n 1, 1) := by decide +kernel
theorem dX2_valueOf_21 : decode cX2_valueOf 21 = .ok (.iload_n 2, 1) := by decide +kernel
theorem dX2_valueOf_22 : decode cX2_valueOf 22 = .ok (.iload_n 3, 1) := by decide +kernel
theorem dX2_valueOf_23 : decode cX2_valueOf 23 = .ok (.invokevirtual 191, 3) := by decide +kernel
theorem dX2_valueOf_26 : decode cX2_valueOf 26 = .ok (.istore 5, 2) := by decide +kernel
theorem dX2_valueOf_28 : decode cX2_valueOf 28 = .ok (.iload 5, 2) := by decide +kernel
theorem dX2_valueOf_30 : decode cX2_valueOf 30 = .ok (.ifCond .ge 9, 3) := by decide +kernel
theorem dX2_valueOf_33 : decode cX2_valueOf 33 = .ok (.ldc2_w 195, 3) := by decide +kernel
theorem dX2_valueOf_36 : decode cX2_valueOf 36 = .ok (.goto 12, 3) := by decide +kernel
theorem dX2_valueOf_39 : decode cX2_valueOf 39 = .ok (.aload_n 0, 1) := by decide +kernel
theorem dX2_valueOf_40 : decode cX2_valueOf 40 = .ok (.aload 4, 2) := by decide +kernel
theorem dX2_valueOf_42 : decode cX2_valueOf 42 = .ok (.iload 5, 2) := by decide +kernel
theorem dX2_valueOf_44 : decode cX2_valueOf 44 = .ok (.iaload, 1) := by decide +kernel
theorem dX2_valueOf_45 : decode cX2_valueOf 45 = .ok (.invokevirtual 197, 3) := by decide +kernel
theorem dX2_valueOf_48 : decode cX2_valueOf 48 = .ok (.lreturn, 1) := by decide +kernel
abbrev mX2_allValues : ks_M := (RX2, cX2_allValues, 5, (some .long), "allValues")
theorem dX2_allValues_0 : decode cX2_allValues 0 = .ok (.aload_n 0, 1) := by decide +kernel
theorem dX2_allValues_1 : decode cX2_allValues 1 = .ok (.getfield 13, 3) := by decide +kernel
theorem dX2_allValues_4 : decode cX2_allValues 4 = .ok (.aload_n 0, 1) := by decide +kernel
theorem dX2_allValues_5 : decode cX2_allValues 5 = .ok (.getfield 178, 3) := by decide +kernel
theorem dX2_allValues_8 : decode cX2_allValues 8 = .ok (.aaload, 1) := by decide +kernel
theorem dX2_allValues_9 : decode cX2_allValues 9 = .ok (.getfield 95, 3) := by decide +kernel
theorem dX2_allValues_12 : decode cX2_allValues 12 = .ok (.astore_n 1, 1) := by decide +kernel
theorem dX2_allValues_13 : decode cX2_allValues 13 = .ok (.lconst 0, 1) := by decide +kernel
theorem dX2_allValues_14 : decode cX2_allValues 14 = .ok (.lstore_n 2, 1) := by decide +kernel
theorem dX2_allValues_15 : decode cX2_allValues 15 = .ok (.iconst 0, 1) := by decide +kernel
theorem dX2_allValues_16 : decode cX2_allValues 16 = .ok (.istore 4, 2) := by decide +kernel
theorem dX2_allValues_18 : decode cX2_allValues 18 = .ok (.iload 4, 2) := by decide +kernel
theorem dX2_allValues_20 : decode cX2_allValues 20 = .ok (.aload_n 1, 1) := by decide +kernel
theorem dX2_allValues_21 : decode cX2_allValues 21 = .ok (.arraylength, 1) := by decide +kernel
theorem dX2_allValues_22 : decode cX2_allValues 22 = .ok (.if_icmp .ge 20, 3) := by decide +kernel
theorem dX2_allValues_25 : decode cX2_allValues 25 = .ok (.lload_n 2, 1) := by decide +kernel
theorem dX2_allValues_26 : decode cX2_allValues 26 = .ok (.aload_n 0, 1) := by decide +kernel
theorem dX2_allValues_27 : decode cX2_allValues 27 = .ok (.aload_n 1, 1) := by decide +kernel
theorem dX2_allValues_28 : decode cX2_allValues 28 = .ok (.iload 4, 2) := by decide +kernel
theorem dX2_allValues_30 : decode cX2_allValues 30 = .ok (.iaload, 1) := by decide +kernel
theorem dX2_allValues_31 : decode cX2_allValues 31 = .ok (.invokevirtual 197, 3) := by decide +kernel
theorem dX2_allValues_34 : decode cX2_allValues 34 = .ok (.ladd, 1) := by decide +kernel
theorem dX2_allValues_35 : decode cX2_allValues 35 = .ok (.lstore_n 2, 1) := by decide +kernel
theorem dX2_allValues_36 : decode cX2_allValues 36 = .ok (.iinc 4 1, 3) := by decide +kernel
theorem dX2_allValues_39 : decode cX2_allValues 39 = .ok (.goto (-21), 3) := by decide +kernel
theorem dX2_allValues_42 : decode cX2_allValues 42 = .ok (.lload_n 2, 1) := by decide +kernel
theorem dX2_allValues_43 : decode cX2_allValues 43 = .ok (.lreturn, 1) := by decide +kernel
abbrev mX2_refuseHeader : ks_M := (RX2, cX2_refuseHeader, 2, (some .int), "refuseHeader")
theorem dX2_refuseHeader_0 : decode cX2_refuseHeader 0 = .ok (.aload_n 0, 1) := by decide +kernel
theorem dX2_refuseHeader_1 : decode cX2_refuseHeader 1 = .ok (.getfield 13, 3) := by decide +kernel
theorem dX2_refuseHeader_4 : decode cX2_refuseHeader 4 = .ok (.aload_n 1, 1) := by decide +kernel
theorem dX2_refuseHeader_5 : decode cX2_refuseHeader 5 = .ok (.getfield 110, 3) := by decide +kernel
theorem dX2_refuseHeader_8 : decode cX2_refuseHeader 8 = .ok (.aaload, 1) := by decide +kernel
theorem dX2_refuseHeader_9 : decode cX2_refuseHeader 9 = .ok (.getfield 174, 3) := by decide +kernel
theorem dX2_refuseHeader_12 : decode cX2_refuseHeader 12 = .ok (.ifCond .eq 5, 3) := by decide +kernel
theorem dX2_refuseHeader_15 : decode cX2_refuseHeader 15 = .ok (.iconst 3, 1) := by decide +kernel
theorem dX2_refuseHeader_16 : decode cX2_refuseHeader 16 = .ok (.ireturn, 1) := by decide +kernel
theorem dX2_refuseHeader_17 : decode cX2_refuseHeader 17 = .ok (.aload_n 1, 1) := by decide +kernel
theorem dX2_refuseHeader_18 : decode cX2_refuseHeader 18 = .ok (.invokevirtual 63, 3) := by decide +kernel
theorem dX2_refuseHeader_21 : decode cX2_refuseHeader 21 = .ok (.aload_n 0, 1) := by decide +kernel
theorem dX2_refuseHeader_22 : decode cX2_refuseHeader 22 = .ok (.aload_n 1, 1) := by decide +kernel
theorem dX2_refuseHeader_23 : decode cX2_refuseHeader 23 = .ok (.getfield 110, 3) := by decide +kernel
theorem dX2_refuseHeader_26 : decode cX2_refuseHeader 26 = .ok (.invokevirtual 201, 3) := by decide +kernel
theorem dX2_refuseHeader_29 : decode cX2_refuseHeader 29 = .ok (.if_icmp .eq 5, 3) := by decide +kernel
theorem dX2_refuseHeader_32 : decode cX2_refuseHeader 32 = .ok (.iconst 4, 1) := by decide +kernel
theorem dX2_refuseHeader_33 : decode cX2_refuseHeader 33 = .ok (.ireturn, 1) := by decide +kernel
theorem dX2_refuseHeader_34 : decode cX2_refuseHeader 34 = .ok (.aload_n 1, 1) := by decide +kernel
theorem dX2_refuseHeader_35 : decode cX2_refuseHeader 35 = .ok (.invokevirtual 181, 3) := by decide +kernel
theorem dX2_refuseHeader_38 : decode cX2_refuseHeader 38 = .ok (.aload_n 0, 1) := by decide +kernel
theorem dX2_refuseHeader_39 : decode cX2_refuseHeader 39 = .ok (.aload_n 1, 1) := by decide +kernel
theorem dX2_refuseHeader_40 : decode cX2_refuseHeader 40 = .ok (.getfield 110, 3) := by decide +kernel
theorem dX2_refuseHeader_43 : decode cX2_refuseHeader 43 = .ok (.invokevirtual 204, 3) := by decide +kernel
theorem dX2_refuseHeader_46 : decode cX2_refuseHeader 46 = .ok (.lcmp, 1) := by decide +kernel
theorem dX2_refuseHeader_47 : decode cX2_refuseHeader 47 = .ok (.ifCond .gt 7, 3) := by decide +kernel
theorem dX2_refuseHeader_50 : decode cX2_refuseHeader 50 = .ok (.iconst 5, 1) := by decide +kernel
theorem dX2_refuseHeader_51 : decode cX2_refuseHeader 51 = .ok (.goto 4, 3) := by decide +kernel
theorem dX2_refuseHeader_54 : decode cX2_refuseHeader 54 = .ok (.iconst 0, 1) := by decide +kernel
theorem dX2_refuseHeader_55 : decode cX2_refuseHeader 55 = .ok (.ireturn, 1) := by decide +kernel
abbrev mX2_refuseTransactions : ks_M := (RX2, cX2_refuseTransactions, 5, (some .int), "refuseTransactions")
theorem dX2_refuseTransactions_0 : decode cX2_refuseTransactions 0 = .ok (.aload_n 1, 1) := by decide +kernel
theorem dX2_refuseTransactions_1 : decode cX2_refuseTransactions 1 = .ok (.getfield 127, 3) := by decide +kernel
theorem dX2_refuseTransactions_4 : decode cX2_refuseTransactions 4 = .ok (.ifCond .ne 6, 3) := by decide +kernel
theorem dX2_refuseTransactions_7 : decode cX2_refuseTransactions 7 = .ok (.bipush 7, 2) := by decide +kernel
theorem dX2_refuseTransactions_9 : decode cX2_refuseTransactions 9 = .ok (.ireturn, 1) := by decide +kernel
theorem dX2_refuseTransactions_10 : decode cX2_refuseTransactions 10 = .ok (.aload_n 1, 1) := by decide +kernel
theorem dX2_refuseTransactions_11 : decode cX2_refuseTransactions 11 = .ok (.aload_n 0, 1) := by decide +kernel
theorem dX2_refuseTransactions_12 : decode cX2_refuseTransactions 12 = .ok (.getfield 42, 3) := by decide +kernel
theorem dX2_refuseTransactions_15 : decode cX2_refuseTransactions 15 = .ok (.invokevirtual 59, 3) := by decide +kernel
theorem dX2_refuseTransactions_18 : decode cX2_refuseTransactions 18 = .ok (.aload_n 0, 1) := by decide +kernel
theorem dX2_refuseTransactions_19 : decode cX2_refuseTransactions 19 = .ok (.aload_n 1, 1) := by decide +kernel
theorem dX2_refuseTransactions_20 : decode cX2_refuseTransactions 20 = .ok (.invokevirtual 207, 3) := by decide +kernel
theorem dX2_refuseTransactions_23 : decode cX2_refuseTransactions 23 = .ok (.ifCond .eq 10, 3) := by decide +kernel
theorem dX2_refuseTransactions_26 : decode cX2_refuseTransactions 26 = .ok (.aload_n 1, 1) := by decide +kernel
theorem dX2_refuseTransactions_27 : decode cX2_refuseTransactions 27 = .ok (.invokestatic 211, 3) := by decide +kernel
theorem dX2_refuseTransactions_30 : decode cX2_refuseTransactions 30 = .ok (.ifCond .eq 6, 3) := by decide +kernel
theorem dX2_refuseTransactions_33 : decode cX2_refuseTransactions 33 = .ok (.bipush 6, 2) := by decide +kernel
theorem dX2_refuseTransactions_35 : decode cX2_refuseTransactions 35 = .ok (.ireturn, 1) := by decide +kernel
theorem dX2_refuseTransactions_36 : decode cX2_refuseTransactions 36 = .ok (.iconst 0, 1) := by decide +kernel
theorem dX2_refuseTransactions_37 : decode cX2_refuseTransactions 37 = .ok (.istore_n 2, 1) := by decide +kernel
theorem dX2_refuseTransactions_38 : decode cX2_refuseTransactions 38 = .ok (.iconst 0, 1) := by decide +kernel
theorem dX2_refuseTransactions_39 : decode cX2_refuseTransactions 39 = .ok (.istore_n 3, 1) := by decide +kernel
theorem dX2_refuseTransactions_40 : decode cX2_refuseTransactions 40 = .ok (.iload_n 3, 1) := by decide +kernel
theorem dX2_refuseTransactions_41 : decode cX2_refuseTransactions 41 = .ok (.aload_n 1, 1) := by decide +kernel
theorem dX2_refuseTransactions_42 : decode cX2_refuseTransactions 42 = .ok (.getfield 127, 3) := by decide +kernel
theorem dX2_refuseTransactions_45 : decode cX2_refuseTransactions 45 = .ok (.if_icmp .ge 67, 3) := by decide +kernel
theorem dX2_refuseTransactions_48 : decode cX2_refuseTransactions 48 = .ok (.aload_n 0, 1) := by decide +kernel
theorem dX2_refuseTransactions_49 : decode cX2_refuseTransactions 49 = .ok (.getfield 50, 3) := by decide +kernel
theorem dX2_refuseTransactions_52 : decode cX2_refuseTransactions 52 = .ok (.aload_n 1, 1) := by decide +kernel
theorem dX2_refuseTransactions_53 : decode cX2_refuseTransactions 53 = .ok (.getfield 107, 3) := by decide +kernel
theorem dX2_refuseTransactions_56 : decode cX2_refuseTransactions 56 = .ok (.aload_n 1, 1) := by decide +kernel
theorem dX2_refuseTransactions_57 : decode cX2_refuseTransactions 57 = .ok (.getfield 130, 3) := by decide +kernel
theorem dX2_refuseTransactions_60 : decode cX2_refuseTransactions 60 = .ok (.iload_n 3, 1) := by decide +kernel
theorem dX2_refuseTransactions_61 : decode cX2_refuseTransactions 61 = .ok (.iaload, 1) := by decide +kernel
theorem dX2_refuseTransactions_62 : decode cX2_refuseTransactions 62 = .ok (.aload_n 1, 1) := by decide +kernel
theorem dX2_refuseTransactions_63 : decode cX2_refuseTransactions 63 = .ok (.getfield 133, 3) := by decide +kernel
theorem dX2_refuseTransactions_66 : decode cX2_refuseTransactions 66 = .ok (.invokevirtual 136, 3) := by decide +kernel
theorem dX2_refuseTransactions_69 : decode cX2_refuseTransactions 69 = .ok (.pop, 1) := by decide +kernel
theorem dX2_refuseTransactions_70 : decode cX2_refuseTransactions 70 = .ok (.aload_n 0, 1) := by decide +kernel
theorem dX2_refuseTransactions_71 : decode cX2_refuseTransactions 71 = .ok (.getfield 50, 3) := by decide +kernel
theorem dX2_refuseTransactions_74 : decode cX2_refuseTransactions 74 = .ok (.iload_n 3, 1) := by decide +kernel
theorem dX2_refuseTransactions_75 : decode cX2_refuseTransactions 75 = .ok (.ifCond .ne 7, 3) := by decide +kernel
theorem dX2_refuseTransactions_78 : decode cX2_refuseTransactions 78 = .ok (.iconst 1, 1) := by decide +kernel
theorem dX2_refuseTransactions_79 : decode cX2_refuseTransactions 79 = .ok (.goto 4, 3) := by decide +kernel
theorem dX2_refuseTransactions_82 : decode cX2_refuseTransactions 82 = .ok (.iconst 0, 1) := by decide +kernel
theorem dX2_refuseTransactions_83 : decode cX2_refuseTransactions 83 = .ok (.invokevirtual 214, 3) := by decide +kernel
theorem dX2_refuseTransactions_86 : decode cX2_refuseTransactions 86 = .ok (.istore 4, 2) := by decide +kernel
theorem dX2_refuseTransactions_88 : decode cX2_refuseTransactions 88 = .ok (.iload 4, 2) := by decide +kernel
theorem dX2_refuseTransactions_90 : decode cX2_refuseTransactions 90 = .ok (.ifCond .eq 6, 3) := by decide +kernel
theorem dX2_refuseTransactions_93 : decode cX2_refuseTransactions 93 = .ok (.iload 4, 2) := by decide +kernel
theorem dX2_refuseTransactions_95 : decode cX2_refuseTransactions 95 = .ok (.ireturn, 1) := by decide +kernel
theorem dX2_refuseTransactions_96 : decode cX2_refuseTransactions 96 = .ok (.iload_n 2, 1) := by decide +kernel
theorem dX2_refuseTransactions_97 : decode cX2_refuseTransactions 97 = .ok (.aload_n 0, 1) := by decide +kernel
theorem dX2_refuseTransactions_98 : decode cX2_refuseTransactions 98 = .ok (.getfield 50, 3) := by decide +kernel
theorem dX2_refuseTransactions_101 : decode cX2_refuseTransactions 101 = .ok (.invokevirtual 218, 3) := by decide +kernel
theorem dX2_refuseTransactions_104 : decode cX2_refuseTransactions 104 = .ok (.iadd, 1) := by decide +kernel
theorem dX2_refuseTransactions_105 : decode cX2_refuseTransactions 105 = .ok (.istore_n 2, 1) := by decide +kernel
theorem dX2_refuseTransactions_106 : decode cX2_refuseTransactions 106 = .ok (.iinc 3 1, 3) := by decide +kernel
theorem dX2_refuseTransactions_109 : decode cX2_refuseTransactions 109 = .ok (.goto (-69), 3) := by decide +kernel
theorem dX2_refuseTransactions_112 : decode cX2_refuseTransactions 112 = .ok (.iload_n 2, 1) := by decide +kernel
theorem dX2_refuseTransactions_113 : decode cX2_refuseTransactions 113 = .ok (.bipush 60, 2) := by decide +kernel
theorem dX2_refuseTransactions_115 : decode cX2_refuseTransactions 115 = .ok (.if_icmp .le 6, 3) := by decide +kernel
theorem dX2_refuseTransactions_118 : decode cX2_refuseTransactions 118 = .ok (.bipush 9, 2) := by decide +kernel
theorem dX2_refuseTransactions_120 : decode cX2_refuseTransactions 120 = .ok (.ireturn, 1) := by decide +kernel
theorem dX2_refuseTransactions_121 : decode cX2_refuseTransactions 121 = .ok (.iconst 0, 1) := by decide +kernel
theorem dX2_refuseTransactions_122 : decode cX2_refuseTransactions 122 = .ok (.istore_n 3, 1) := by decide +kernel
theorem dX2_refuseTransactions_123 : decode cX2_refuseTransactions 123 = .ok (.iload_n 3, 1) := by decide +kernel
theorem dX2_refuseTransactions_124 : decode cX2_refuseTransactions 124 = .ok (.aload_n 1, 1) := by decide +kernel
theorem dX2_refuseTransactions_125 : decode cX2_refuseTransactions 125 = .ok (.getfield 127, 3) := by decide +kernel
theorem dX2_refuseTransactions_128 : decode cX2_refuseTransactions 128 = .ok (.if_icmp .ge 52, 3) := by decide +kernel
theorem dX2_refuseTransactions_131 : decode cX2_refuseTransactions 131 = .ok (.aload_n 0, 1) := by decide +kernel
theorem dX2_refuseTransactions_132 : decode cX2_refuseTransactions 132 = .ok (.getfield 50, 3) := by decide +kernel
theorem dX2_refuseTransactions_135 : decode cX2_refuseTransactions 135 = .ok (.aload_n 1, 1) := by decide +kernel
theorem dX2_refuseTransactions_136 : decode cX2_refuseTransactions 136 = .ok (.getfield 107, 3) := by decide +kernel
theorem dX2_refuseTransactions_139 : decode cX2_refuseTransactions 139 = .ok (.aload_n 1, 1) := by decide +kernel
theorem dX2_refuseTransactions_140 : decode cX2_refuseTransactions 140 = .ok (.getfield 130, 3) := by decide +kernel
theorem dX2_refuseTransactions_143 : decode cX2_refuseTransactions 143 = .ok (.iload_n 3, 1) := by decide +kernel
theorem dX2_refuseTransactions_144 : decode cX2_refuseTransactions 144 = .ok (.iaload, 1) := by decide +kernel
theorem dX2_refuseTransactions_145 : decode cX2_refuseTransactions 145 = .ok (.aload_n 1, 1) := by decide +kernel
theorem dX2_refuseTransactions_146 : decode cX2_refuseTransactions 146 = .ok (.getfield 133, 3) := by decide +kernel
theorem dX2_refuseTransactions_149 : decode cX2_refuseTransactions 149 = .ok (.invokevirtual 136, 3) := by decide +kernel
theorem dX2_refuseTransactions_152 : decode cX2_refuseTransactions 152 = .ok (.pop, 1) := by decide +kernel
theorem dX2_refuseTransactions_153 : decode cX2_refuseTransactions 153 = .ok (.aload_n 0, 1) := by decide +kernel
theorem dX2_refuseTransactions_154 : decode cX2_refuseTransactions 154 = .ok (.getfield 50, 3) := by decide +kernel
theorem dX2_refuseTransactions_157 : decode cX2_refuseTransactions 157 = .ok (.aload_n 1, 1) := by decide +kernel
theorem dX2_refuseTransactions_158 : decode cX2_refuseTransactions 158 = .ok (.getfield 113, 3) := by decide +kernel
theorem dX2_refuseTransactions_161 : decode cX2_refuseTransactions 161 = .ok (.aload_n 1, 1) := by decide +kernel
theorem dX2_refuseTransactions_162 : decode cX2_refuseTransactions 162 = .ok (.invokevirtual 181, 3) := by decide +kernel
theorem dX2_refuseTransactions_165 : decode cX2_refuseTransactions 165 = .ok (.invokevirtual 221, 3) := by decide +kernel
theorem dX2_refuseTransactions_168 : decode cX2_refuseTransactions 168 = .ok (.ifCond .ne 6, 3) := by decide +kernel
theorem dX2_refuseTransactions_171 : decode cX2_refuseTransactions 171 = .ok (.bipush 10, 2) := by decide +kernel
theorem dX2_refuseTransactions_173 : decode cX2_refuseTransactions 173 = .ok (.ireturn, 1) := by decide +kernel
theorem dX2_refuseTransactions_174 : decode cX2_refuseTransactions 174 = .ok (.iinc 3 1, 3) := by decide +kernel
theorem dX2_refuseTransactions_177 : decode cX2_refuseTransactions 177 = .ok (.goto (-54), 3) := by decide +kernel
theorem dX2_refuseTransactions_180 : decode cX2_refuseTransactions 180 = .ok (.iconst 0, 1) := by decide +kernel
theorem dX2_refuseTransactions_181 : decode cX2_refuseTransactions 181 = .ok (.ireturn, 1) := by decide +kernel
abbrev mX2_hasItsRoot : ks_M := (RX2, cX2_hasItsRoot, 2, (some .boolean), "hasItsRoot")
theorem dX2_hasItsRoot_0 : decode cX2_hasItsRoot 0 = .ok (.aload_n 0, 1) := by decide +kernel
theorem dX2_hasItsRoot_1 : decode cX2_hasItsRoot 1 = .ok (.getfield 42, 3) := by decide +kernel
theorem dX2_hasItsRoot_4 : decode cX2_hasItsRoot 4 = .ok (.aload_n 1, 1) := by decide +kernel
theorem dX2_hasItsRoot_5 : decode cX2_hasItsRoot 5 = .ok (.getfield 225, 3) := by decide +kernel
theorem dX2_hasItsRoot_8 : decode cX2_hasItsRoot 8 = .ok (.aload_n 1, 1) := by decide +kernel
theorem dX2_hasItsRoot_9 : decode cX2_hasItsRoot 9 = .ok (.getfield 127, 3) := by decide +kernel
theorem dX2_hasItsRoot_12 : decode cX2_hasItsRoot 12 = .ok (.aload_n 0, 1) := by decide +kernel
theorem dX2_hasItsRoot_13 : decode cX2_hasItsRoot 13 = .ok (.getfield 32, 3) := by decide +kernel
theorem dX2_hasItsRoot_16 : decode cX2_hasItsRoot 16 = .ok (.invokevirtual 228, 3) := by decide +kernel
theorem dX2_hasItsRoot_19 : decode cX2_hasItsRoot 19 = .ok (.aload_n 0, 1) := by decide +kernel
theorem dX2_hasItsRoot_20 : decode cX2_hasItsRoot 20 = .ok (.getfield 32, 3) := by decide +kernel
theorem dX2_hasItsRoot_23 : decode cX2_hasItsRoot 23 = .ok (.iconst 0, 1) := by decide +kernel
theorem dX2_hasItsRoot_24 : decode cX2_hasItsRoot 24 = .ok (.aload_n 1, 1) := by decide +kernel
theorem dX2_hasItsRoot_25 : decode cX2_hasItsRoot 25 = .ok (.getfield 107, 3) := by decide +kernel
theorem dX2_hasItsRoot_28 : decode cX2_hasItsRoot 28 = .ok (.bipush 36, 2) := by decide +kernel
theorem dX2_hasItsRoot_30 : decode cX2_hasItsRoot 30 = .ok (.invokestatic 233, 3) := by decide +kernel
theorem dX2_hasItsRoot_33 : decode cX2_hasItsRoot 33 = .ok (.ireturn, 1) := by decide +kernel
abbrev mX2_hasSameIds : ks_M := (RX2, cX2_hasSameIds, 3, (some .boolean), "hasSameIds")
theorem dX2_hasSameIds_0 : decode cX2_hasSameIds 0 = .ok (.iconst 1, 1) := by decide +kernel
theorem dX2_hasSameIds_1 : decode cX2_hasSameIds 1 = .ok (.istore_n 1, 1) := by decide +kernel
theorem dX2_hasSameIds_2 : decode cX2_hasSameIds 2 = .ok (.iload_n 1, 1) := by decide +kernel
theorem dX2_hasSameIds_3 : decode cX2_hasSameIds 3 = .ok (.aload_n 0, 1) := by decide +kernel
theorem dX2_hasSameIds_4 : decode cX2_hasSameIds 4 = .ok (.getfield 127, 3) := by decide +kernel
theorem dX2_hasSameIds_7 : decode cX2_hasSameIds 7 = .ok (.if_icmp .ge 46, 3) := by decide +kernel
theorem dX2_hasSameIds_10 : decode cX2_hasSameIds 10 = .ok (.iconst 0, 1) := by decide +kernel
theorem dX2_hasSameIds_11 : decode cX2_hasSameIds 11 = .ok (.istore_n 2, 1) := by decide +kernel
theorem dX2_hasSameIds_12 : decode cX2_hasSameIds 12 = .ok (.iload_n 2, 1) := by decide +kernel
theorem dX2_hasSameIds_13 : decode cX2_hasSameIds 13 = .ok (.iload_n 1, 1) := by decide +kernel
theorem dX2_hasSameIds_14 : decode cX2_hasSameIds 14 = .ok (.if_icmp .ge 33, 3) := by decide +kernel
theorem dX2_hasSameIds_17 : decode cX2_hasSameIds 17 = .ok (.aload_n 0, 1) := by decide +kernel
theorem dX2_hasSameIds_18 : decode cX2_hasSameIds 18 = .ok (.getfield 225, 3) := by decide +kernel
theorem dX2_hasSameIds_21 : decode cX2_hasSameIds 21 = .ok (.bipush 32, 2) := by decide +kernel
theorem dX2_hasSameIds_23 : decode cX2_hasSameIds 23 = .ok (.iload_n 1, 1) := by decide +kernel
theorem dX2_hasSameIds_24 : decode cX2_hasSameIds 24 = .ok (.imul, 1) := by decide +kernel
theorem dX2_hasSameIds_25 : decode cX2_hasSameIds 25 = .ok (.aload_n 0, 1) := by decide +kernel
theorem dX2_hasSameIds_26 : decode cX2_hasSameIds 26 = .ok (.getfield 225, 3) := by decide +kernel
theorem dX2_hasSameIds_29 : decode cX2_hasSameIds 29 = .ok (.bipush 32, 2) := by decide +kernel
theorem dX2_hasSameIds_31 : decode cX2_hasSameIds 31 = .ok (.iload_n 2, 1) := by decide +kernel
theorem dX2_hasSameIds_32 : decode cX2_hasSameIds 32 = .ok (.imul, 1) := by decide +kernel
theorem dX2_hasSameIds_33 : decode cX2_hasSameIds 33 = .ok (.invokestatic 233, 3) := by decide +kernel
theorem dX2_hasSameIds_36 : decode cX2_hasSameIds 36 = .ok (.ifCond .eq 5, 3) := by decide +kernel
theorem dX2_hasSameIds_39 : decode cX2_hasSameIds 39 = .ok (.iconst 1, 1) := by decide +kernel
theorem dX2_hasSameIds_40 : decode cX2_hasSameIds 40 = .ok (.ireturn, 1) := by decide +kernel
theorem dX2_hasSameIds_41 : decode cX2_hasSameIds 41 = .ok (.iinc 2 1, 3) := by decide +kernel
theorem dX2_hasSameIds_44 : decode cX2_hasSameIds 44 = .ok (.goto (-32), 3) := by decide +kernel
theorem dX2_hasSameIds_47 : decode cX2_hasSameIds 47 = .ok (.iinc 1 1, 3) := by decide +kernel
theorem dX2_hasSameIds_50 : decode cX2_hasSameIds 50 = .ok (.goto (-48), 3) := by decide +kernel
theorem dX2_hasSameIds_53 : decode cX2_hasSameIds 53 = .ok (.iconst 0, 1) := by decide +kernel
theorem dX2_hasSameIds_54 : decode cX2_hasSameIds 54 = .ok (.ireturn, 1) := by decide +kernel
abbrev mX2_numberOf : ks_M := (RX2, cX2_numberOf, 4, (some .int), "numberOf")
theorem dX2_numberOf_0 : decode cX2_numberOf 0 = .ok (.iconst 0, 1) := by decide +kernel
theorem dX2_numberOf_1 : decode cX2_numberOf 1 = .ok (.istore_n 3, 1) := by decide +kernel
theorem dX2_numberOf_2 : decode cX2_numberOf 2 = .ok (.iload_n 3, 1) := by decide +kernel
theorem dX2_numberOf_3 : decode cX2_numberOf 3 = .ok (.aload_n 0, 1) := by decide +kernel
theorem dX2_numberOf_4 : decode cX2_numberOf 4 = .ok (.getfield 78, 3) := by decide +kernel
theorem dX2_numberOf_7 : decode cX2_numberOf 7 = .ok (.if_icmp .ge 29, 3) := by decide +kernel
theorem dX2_numberOf_10 : decode cX2_numberOf 10 = .ok (.aload_n 0, 1) := by decide +kernel
theorem dX2_numberOf_11 : decode cX2_numberOf 11 = .ok (.getfield 13, 3) := by decide +kernel
theorem dX2_numberOf_14 : decode cX2_numberOf 14 = .ok (.iload_n 3, 1) := by decide +kernel
theorem dX2_numberOf_15 : decode cX2_numberOf 15 = .ok (.aaload, 1) := by decide +kernel
theorem dX2_numberOf_16 : decode cX2_numberOf 16 = .ok (.getfield 96, 3) := by decide +kernel
theorem dX2_numberOf_19 : decode cX2_numberOf 19 = .ok (.iconst 0, 1) := by decide +kernel
theorem dX2_numberOf_20 : decode cX2_numberOf 20 = .ok (.aload_n 1, 1) := by decide +kernel
theorem dX2_numberOf_21 : decode cX2_numberOf 21 = .ok (.iload_n 2, 1) := by decide +kernel
theorem dX2_numberOf_22 : decode cX2_numberOf 22 = .ok (.invokestatic 233, 3) := by decide +kernel
theorem dX2_numberOf_25 : decode cX2_numberOf 25 = .ok (.ifCond .eq 5, 3) := by decide +kernel
theorem dX2_numberOf_28 : decode cX2_numberOf 28 = .ok (.iload_n 3, 1) := by decide +kernel
theorem dX2_numberOf_29 : decode cX2_numberOf 29 = .ok (.ireturn, 1) := by decide +kernel
theorem dX2_numberOf_30 : decode cX2_numberOf 30 = .ok (.iinc 3 1, 3) := by decide +kernel
theorem dX2_numberOf_33 : decode cX2_numberOf 33 = .ok (.goto (-31), 3) := by decide +kernel
theorem dX2_numberOf_36 : decode cX2_numberOf 36 = .ok (.iconst (-1), 1) := by decide +kernel
theorem dX2_numberOf_37 : decode cX2_numberOf 37 = .ok (.ireturn, 1) := by decide +kernel
abbrev mX2_isSame : ks_M := (RX2, cX2_isSame, 5, (some .boolean), "isSame")
theorem dX2_isSame_0 : decode cX2_isSame 0 = .ok (.iconst 0, 1) := by decide +kernel
theorem dX2_isSame_1 : decode cX2_isSame 1 = .ok (.istore 4, 2) := by decide +kernel
theorem dX2_isSame_3 : decode cX2_isSame 3 = .ok (.iload 4, 2) := by decide +kernel
theorem dX2_isSame_5 : decode cX2_isSame 5 = .ok (.bipush 32, 2) := by decide +kernel
theorem dX2_isSame_7 : decode cX2_isSame 7 = .ok (.if_icmp .ge 26, 3) := by decide +kernel
theorem dX2_isSame_10 : decode cX2_isSame 10 = .ok (.aload_n 0, 1) := by decide +kernel
theorem dX2_isSame_11 : decode cX2_isSame 11 = .ok (.iload_n 1, 1) := by decide +kernel
theorem dX2_isSame_12 : decode cX2_isSame 12 = .ok (.iload 4, 2) := by decide +kernel
theorem dX2_isSame_14 : decode cX2_isSame 14 = .ok (.iadd, 1) := by decide +kernel
theorem dX2_isSame_15 : decode cX2_isSame 15 = .ok (.baload, 1) := by decide +kernel
theorem dX2_isSame_16 : decode cX2_isSame 16 = .ok (.aload_n 2, 1) := by decide +kernel
theorem dX2_isSame_17 : decode cX2_isSame 17 = .ok (.iload_n 3, 1) := by decide +kernel
theorem dX2_isSame_18 : decode cX2_isSame 18 = .ok (.iload 4, 2) := by decide +kernel
theorem dX2_isSame_20 : decode cX2_isSame 20 = .ok (.iadd, 1) := by decide +kernel
theorem dX2_isSame_21 : decode cX2_isSame 21 = .ok (.baload, 1) := by decide +kernel
theorem dX2_isSame_22 : decode cX2_isSame 22 = .ok (.if_icmp .eq 5, 3) := by decide +kernel
theorem dX2_isSame_25 : decode cX2_isSame 25 = .ok (.iconst 0, 1) := by decide +kernel
theorem dX2_isSame_26 : decode cX2_isSame 26 = .ok (.ireturn, 1) := by decide +kernel
theorem dX2_isSame_27 : decode cX2_isSame 27 = .ok (.iinc 4 1, 3) := by decide +kernel
theorem dX2_isSame_30 : decode cX2_isSame 30 = .ok (.goto (-27), 3) := by decide +kernel
theorem dX2_isSame_33 : decode cX2_isSame 33 = .ok (.iconst 1, 1) := by decide +kernel
theorem dX2_isSame_34 : decode cX2_isSame 34 = .ok (.ireturn, 1) := by decide +kernel
abbrev mX2_startFrom : ks_M := (RX2, cX2_startFrom, 2, none, "startFrom")
theorem dX2_startFrom_0 : decode cX2_startFrom 0 = .ok (.aload_n 0, 1) := by decide +kernel
theorem dX2_startFrom_1 : decode cX2_startFrom 1 = .ok (.iconst 0, 1) := by decide +kernel
theorem dX2_startFrom_2 : decode cX2_startFrom 2 = .ok (.putfield 86, 3) := by decide +kernel
theorem dX2_startFrom_5 : decode cX2_startFrom 5 = .ok (.iload_n 1, 1) := by decide +kernel
theorem dX2_startFrom_6 : decode cX2_startFrom 6 = .ok (.ifCond .lt 51, 3) := by decide +kernel
theorem dX2_startFrom_9 : decode cX2_startFrom 9 = .ok (.aload_n 0, 1) := by decide +kernel
theorem dX2_startFrom_10 : decode cX2_startFrom 10 = .ok (.getfield 13, 3) := by decide +kernel
theorem dX2_startFrom_13 : decode cX2_startFrom 13 = .ok (.iload_n 1, 1) := by decide +kernel
theorem dX2_startFrom_14 : decode cX2_startFrom 14 = .ok (.aaload, 1) := by decide +kernel
theorem dX2_startFrom_15 : decode cX2_startFrom 15 = .ok (.getfield 95, 3) := by decide +kernel
theorem dX2_startFrom_18 : decode cX2_startFrom 18 = .ok (.ifnull 39, 3) := by decide +kernel
theorem dX2_startFrom_21 : decode cX2_startFrom 21 = .ok (.aload_n 0, 1) := by decide +kernel
theorem dX2_startFrom_22 : decode cX2_startFrom 22 = .ok (.aload_n 0, 1) := by decide +kernel
theorem dX2_startFrom_23 : decode cX2_startFrom 23 = .ok (.getfield 13, 3) := by decide +kernel
theorem dX2_startFrom_26 : decode cX2_startFrom 26 = .ok (.iload_n 1, 1) := by decide +kernel
theorem dX2_startFrom_27 : decode cX2_startFrom 27 = .ok (.aaload, 1) := by decide +kernel
theorem dX2_startFrom_28 : decode cX2_startFrom 28 = .ok (.getfield 95, 3) := by decide +kernel
theorem dX2_startFrom_31 : decode cX2_startFrom 31 = .ok (.arraylength, 1) := by decide +kernel
theorem dX2_startFrom_32 : decode cX2_startFrom 32 = .ok (.putfield 86, 3) := by decide +kernel
theorem dX2_startFrom_35 : decode cX2_startFrom 35 = .ok (.aload_n 0, 1) := by decide +kernel
theorem dX2_startFrom_36 : decode cX2_startFrom 36 = .ok (.getfield 13, 3) := by decide +kernel
theorem dX2_startFrom_39 : decode cX2_startFrom 39 = .ok (.iload_n 1, 1) := by decide +kernel
theorem dX2_startFrom_40 : decode cX2_startFrom 40 = .ok (.aaload, 1) := by decide +kernel
theorem dX2_startFrom_41 : decode cX2_startFrom 41 = .ok (.getfield 95, 3) := by decide +kernel
theorem dX2_startFrom_44 : decode cX2_startFrom 44 = .ok (.iconst 0, 1) := by decide +kernel
theorem dX2_startFrom_45 : decode cX2_startFrom 45 = .ok (.aload_n 0, 1) := by decide +kernel
theorem dX2_startFrom_46 : decode cX2_startFrom 46 = .ok (.getfield 36, 3) := by decide +kernel
theorem dX2_startFrom_49 : decode cX2_startFrom 49 = .ok (.iconst 0, 1) := by decide +kernel
theorem dX2_startFrom_50 : decode cX2_startFrom 50 = .ok (.aload_n 0, 1) := by decide +kernel
theorem dX2_startFrom_51 : decode cX2_startFrom 51 = .ok (.getfield 86, 3) := by decide +kernel
theorem dX2_startFrom_54 : decode cX2_startFrom 54 = .ok (.invokestatic 237, 3) := by decide +kernel
theorem dX2_startFrom_57 : decode cX2_startFrom 57 = .ok (.return_, 1) := by decide +kernel
abbrev mX2_findCoins : ks_M := (RX2, cX2_findCoins, 5, (some .int), "findCoins")
theorem dX2_findCoins_0 : decode cX2_findCoins 0 = .ok (.aload_n 0, 1) := by decide +kernel
theorem dX2_findCoins_1 : decode cX2_findCoins 1 = .ok (.lconst 0, 1) := by decide +kernel
theorem dX2_findCoins_2 : decode cX2_findCoins 2 = .ok (.putfield 148, 3) := by decide +kernel
theorem dX2_findCoins_5 : decode cX2_findCoins 5 = .ok (.iconst 0, 1) := by decide +kernel
theorem dX2_findCoins_6 : decode cX2_findCoins 6 = .ok (.istore_n 2, 1) := by decide +kernel
theorem dX2_findCoins_7 : decode cX2_findCoins 7 = .ok (.iload_n 2, 1) := by decide +kernel
theorem dX2_findCoins_8 : decode cX2_findCoins 8 = .ok (.aload_n 0, 1) := by decide +kernel
theorem dX2_findCoins_9 : decode cX2_findCoins 9 = .ok (.getfield 50, 3) := by decide +kernel
theorem dX2_findCoins_12 : decode cX2_findCoins 12 = .ok (.getfield 151, 3) := by decide +kernel
theorem dX2_findCoins_15 : decode cX2_findCoins 15 = .ok (.if_icmp .ge 145, 3) := by decide +kernel
theorem dX2_findCoins_18 : decode cX2_findCoins 18 = .ok (.aload_n 0, 1) := by decide +kernel
theorem dX2_findCoins_19 : decode cX2_findCoins 19 = .ok (.getfield 50, 3) := by decide +kernel
theorem dX2_findCoins_22 : decode cX2_findCoins 22 = .ok (.getfield 243, 3) := by decide +kernel
theorem dX2_findCoins_25 : decode cX2_findCoins 25 = .ok (.iload_n 2, 1) := by decide +kernel
theorem dX2_findCoins_26 : decode cX2_findCoins 26 = .ok (.iaload, 1) := by decide +kernel
theorem dX2_findCoins_27 : decode cX2_findCoins 27 = .ok (.istore_n 3, 1) := by decide +kernel
theorem dX2_findCoins_28 : decode cX2_findCoins 28 = .ok (.aload_n 0, 1) := by decide +kernel
theorem dX2_findCoins_29 : decode cX2_findCoins 29 = .ok (.getfield 39, 3) := by decide +kernel
theorem dX2_findCoins_32 : decode cX2_findCoins 32 = .ok (.iload_n 2, 1) := by decide +kernel
theorem dX2_findCoins_33 : decode cX2_findCoins 33 = .ok (.aload_n 0, 1) := by decide +kernel
theorem dX2_findCoins_34 : decode cX2_findCoins 34 = .ok (.aload_n 0, 1) := by decide +kernel
theorem dX2_findCoins_35 : decode cX2_findCoins 35 = .ok (.getfield 36, 3) := by decide +kernel
theorem dX2_findCoins_38 : decode cX2_findCoins 38 = .ok (.aload_n 0, 1) := by decide +kernel
theorem dX2_findCoins_39 : decode cX2_findCoins 39 = .ok (.getfield 86, 3) := by decide +kernel
theorem dX2_findCoins_42 : decode cX2_findCoins 42 = .ok (.aload_n 0, 1) := by decide +kernel
theorem dX2_findCoins_43 : decode cX2_findCoins 43 = .ok (.getfield 50, 3) := by decide +kernel
theorem dX2_findCoins_46 : decode cX2_findCoins 46 = .ok (.getfield 246, 3) := by decide +kernel
theorem dX2_findCoins_49 : decode cX2_findCoins 49 = .ok (.iload_n 3, 1) := by decide +kernel
theorem dX2_findCoins_50 : decode cX2_findCoins 50 = .ok (.aload_n 0, 1) := by decide +kernel
theorem dX2_findCoins_51 : decode cX2_findCoins 51 = .ok (.getfield 50, 3) := by decide +kernel
theorem dX2_findCoins_54 : decode cX2_findCoins 54 = .ok (.getfield 246, 3) := by decide +kernel
theorem dX2_findCoins_57 : decode cX2_findCoins 57 = .ok (.iload_n 3, 1) := by decide +kernel
theorem dX2_findCoins_58 : decode cX2_findCoins 58 = .ok (.bipush 32, 2) := by decide +kernel
theorem dX2_findCoins_60 : decode cX2_findCoins 60 = .ok (.iadd, 1) := by decide +kernel
theorem dX2_findCoins_61 : decode cX2_findCoins 61 = .ok (.iconst 4, 1) := by decide +kernel
theorem dX2_findCoins_62 : decode cX2_findCoins 62 = .ok (.invokestatic 247, 3) := by decide +kernel
theorem dX2_findCoins_65 : decode cX2_findCoins 65 = .ok (.l2i, 1) := by decide +kernel
theorem dX2_findCoins_66 : decode cX2_findCoins 66 = .ok (.invokevirtual 191, 3) := by decide +kernel
theorem dX2_findCoins_69 : decode cX2_findCoins 69 = .ok (.iastore, 1) := by decide +kernel
theorem dX2_findCoins_70 : decode cX2_findCoins 70 = .ok (.aload_n 0, 1) := by decide +kernel
theorem dX2_findCoins_71 : decode cX2_findCoins 71 = .ok (.getfield 39, 3) := by decide +kernel
theorem dX2_findCoins_74 : decode cX2_findCoins 74 = .ok (.iload_n 2, 1) := by decide +kernel
theorem dX2_findCoins_75 : decode cX2_findCoins 75 = .ok (.iaload, 1) := by decide +kernel
theorem dX2_findCoins_76 : decode cX2_findCoins 76 = .ok (.ifCond .ge 6, 3) := by decide +kernel
theorem dX2_findCoins_79 : decode cX2_findCoins 79 = .ok (.bipush 11, 2) := by decide +kernel
theorem dX2_findCoins_81 : decode cX2_findCoins 81 = .ok (.ireturn, 1) := by decide +kernel
theorem dX2_findCoins_82 : decode cX2_findCoins 82 = .ok (.aload_n 0, 1) := by decide +kernel
theorem dX2_findCoins_83 : decode cX2_findCoins 83 = .ok (.getfield 36, 3) := by decide +kernel
theorem dX2_findCoins_86 : decode cX2_findCoins 86 = .ok (.aload_n 0, 1) := by decide +kernel
theorem dX2_findCoins_87 : decode cX2_findCoins 87 = .ok (.getfield 39, 3) := by decide +kernel
theorem dX2_findCoins_90 : decode cX2_findCoins 90 = .ok (.iload_n 2, 1) := by decide +kernel
theorem dX2_findCoins_91 : decode cX2_findCoins 91 = .ok (.iaload, 1) := by decide +kernel
theorem dX2_findCoins_92 : decode cX2_findCoins 92 = .ok (.iaload, 1) := by decide +kernel
theorem dX2_findCoins_93 : decode cX2_findCoins 93 = .ok (.istore 4, 2) := by decide +kernel
theorem dX2_findCoins_95 : decode cX2_findCoins 95 = .ok (.iload 4, 2) := by decide +kernel
theorem dX2_findCoins_97 : decode cX2_findCoins 97 = .ok (.invokestatic 253, 3) := by decide +kernel
theorem dX2_findCoins_100 : decode cX2_findCoins 100 = .ok (.ifCond .ne 25, 3) := by decide +kernel
theorem dX2_findCoins_103 : decode cX2_findCoins 103 = .ok (.iload_n 1, 1) := by decide +kernel
theorem dX2_findCoins_104 : decode cX2_findCoins 104 = .ok (.aload_n 0, 1) := by decide +kernel
theorem dX2_findCoins_105 : decode cX2_findCoins 105 = .ok (.getfield 13, 3) := by decide +kernel
theorem dX2_findCoins_108 : decode cX2_findCoins 108 = .ok (.iload 4, 2) := by decide +kernel
theorem dX2_findCoins_110 : decode cX2_findCoins 110 = .ok (.invokestatic 154, 3) := by decide +kernel
theorem dX2_findCoins_113 : decode cX2_findCoins 113 = .ok (.aaload, 1) := by decide +kernel
theorem dX2_findCoins_114 : decode cX2_findCoins 114 = .ok (.getfield 113, 3) := by decide +kernel
theorem dX2_findCoins_117 : decode cX2_findCoins 117 = .ok (.isub, 1) := by decide +kernel
theorem dX2_findCoins_118 : decode cX2_findCoins 118 = .ok (.iconst 3, 1) := by decide +kernel
theorem dX2_findCoins_119 : decode cX2_findCoins 119 = .ok (.if_icmp .ge 6, 3) := by decide +kernel
theorem dX2_findCoins_122 : decode cX2_findCoins 122 = .ok (.bipush 12, 2) := by decide +kernel
theorem dX2_findCoins_124 : decode cX2_findCoins 124 = .ok (.ireturn, 1) := by decide +kernel
theorem dX2_findCoins_125 : decode cX2_findCoins 125 = .ok (.aload_n 0, 1) := by decide +kernel
theorem dX2_findCoins_126 : decode cX2_findCoins 126 = .ok (.dup, 1) := by decide +kernel
theorem dX2_findCoins_127 : decode cX2_findCoins 127 = .ok (.getfield 148, 3) := by decide +kernel
theorem dX2_findCoins_130 : decode cX2_findCoins 130 = .ok (.aload_n 0, 1) := by decide +kernel
theorem dX2_findCoins_131 : decode cX2_findCoins 131 = .ok (.iload 4, 2) := by decide +kernel
theorem dX2_findCoins_133 : decode cX2_findCoins 133 = .ok (.invokevirtual 197, 3) := by decide +kernel
theorem dX2_findCoins_136 : decode cX2_findCoins 136 = .ok (.ladd, 1) := by decide +kernel
theorem dX2_findCoins_137 : decode cX2_findCoins 137 = .ok (.putfield 148, 3) := by decide +kernel
theorem dX2_findCoins_140 : decode cX2_findCoins 140 = .ok (.aload_n 0, 1) := by decide +kernel
theorem dX2_findCoins_141 : decode cX2_findCoins 141 = .ok (.getfield 148, 3) := by decide +kernel
theorem dX2_findCoins_144 : decode cX2_findCoins 144 = .ok (.ldc2_w 256, 3) := by decide +kernel
theorem dX2_findCoins_147 : decode cX2_findCoins 147 = .ok (.lcmp, 1) := by decide +kernel
theorem dX2_findCoins_148 : decode cX2_findCoins 148 = .ok (.ifCond .le 6, 3) := by decide +kernel
theorem dX2_findCoins_151 : decode cX2_findCoins 151 = .ok (.bipush 13, 2) := by decide +kernel
theorem dX2_findCoins_153 : decode cX2_findCoins 153 = .ok (.ireturn, 1) := by decide +kernel
theorem dX2_findCoins_154 : decode cX2_findCoins 154 = .ok (.iinc 2 1, 3) := by decide +kernel
theorem dX2_findCoins_157 : decode cX2_findCoins 157 = .ok (.goto (-150), 3) := by decide +kernel
theorem dX2_findCoins_160 : decode cX2_findCoins 160 = .ok (.iconst 0, 1) := by decide +kernel
theorem dX2_findCoins_161 : decode cX2_findCoins 161 = .ok (.ireturn, 1) := by decide +kernel
abbrev mX2_takeCoins : ks_M := (RX2, cX2_takeCoins, 3, none, "takeCoins")
theorem dX2_takeCoins_0 : decode cX2_takeCoins 0 = .ok (.iconst 0, 1) := by decide +kernel
theorem dX2_takeCoins_1 : decode cX2_takeCoins 1 = .ok (.istore_n 1, 1) := by decide +kernel
theorem dX2_takeCoins_2 : decode cX2_takeCoins 2 = .ok (.iload_n 1, 1) := by decide +kernel
theorem dX2_takeCoins_3 : decode cX2_takeCoins 3 = .ok (.aload_n 0, 1) := by decide +kernel
theorem dX2_takeCoins_4 : decode cX2_takeCoins 4 = .ok (.getfield 50, 3) := by decide +kernel
theorem dX2_takeCoins_7 : decode cX2_takeCoins 7 = .ok (.getfield 151, 3) := by decide +kernel
theorem dX2_takeCoins_10 : decode cX2_takeCoins 10 = .ok (.if_icmp .ge 21, 3) := by decide +kernel
theorem dX2_takeCoins_13 : decode cX2_takeCoins 13 = .ok (.aload_n 0, 1) := by decide +kernel
theorem dX2_takeCoins_14 : decode cX2_takeCoins 14 = .ok (.getfield 36, 3) := by decide +kernel
theorem dX2_takeCoins_17 : decode cX2_takeCoins 17 = .ok (.aload_n 0, 1) := by decide +kernel
theorem dX2_takeCoins_18 : decode cX2_takeCoins 18 = .ok (.getfield 39, 3) := by decide +kernel
theorem dX2_takeCoins_21 : decode cX2_takeCoins 21 = .ok (.iload_n 1, 1) := by decide +kernel
theorem dX2_takeCoins_22 : decode cX2_takeCoins 22 = .ok (.iaload, 1) := by decide +kernel
theorem dX2_takeCoins_23 : decode cX2_takeCoins 23 = .ok (.iconst (-1), 1) := by decide +kernel
theorem dX2_takeCoins_24 : decode cX2_takeCoins 24 = .ok (.iastore, 1) := by decide +kernel
theorem dX2_takeCoins_25 : decode cX2_takeCoins 25 = .ok (.iinc 1 1, 3) := by decide +kernel
theorem dX2_takeCoins_28 : decode cX2_takeCoins 28 = .ok (.goto (-26), 3) := by decide +kernel
theorem dX2_takeCoins_31 : decode cX2_takeCoins 31 = .ok (.iconst 0, 1) := by decide +kernel
theorem dX2_takeCoins_32 : decode cX2_takeCoins 32 = .ok (.istore_n 1, 1) := by decide +kernel
theorem dX2_takeCoins_33 : decode cX2_takeCoins 33 = .ok (.iconst 0, 1) := by decide +kernel
theorem dX2_takeCoins_34 : decode cX2_takeCoins 34 = .ok (.istore_n 2, 1) := by decide +kernel
theorem dX2_takeCoins_35 : decode cX2_takeCoins 35 = .ok (.iload_n 2, 1) := by decide +kernel
theorem dX2_takeCoins_36 : decode cX2_takeCoins 36 = .ok (.aload_n 0, 1) := by decide +kernel
theorem dX2_takeCoins_37 : decode cX2_takeCoins 37 = .ok (.getfield 86, 3) := by decide +kernel
theorem dX2_takeCoins_40 : decode cX2_takeCoins 40 = .ok (.if_icmp .ge 33, 3) := by decide +kernel
theorem dX2_takeCoins_43 : decode cX2_takeCoins 43 = .ok (.aload_n 0, 1) := by decide +kernel
theorem dX2_takeCoins_44 : decode cX2_takeCoins 44 = .ok (.getfield 36, 3) := by decide +kernel
theorem dX2_takeCoins_47 : decode cX2_takeCoins 47 = .ok (.iload_n 2, 1) := by decide +kernel
theorem dX2_takeCoins_48 : decode cX2_takeCoins 48 = .ok (.iaload, 1) := by decide +kernel
theorem dX2_takeCoins_49 : decode cX2_takeCoins 49 = .ok (.ifCond .lt 18, 3) := by decide +kernel
theorem dX2_takeCoins_52 : decode cX2_takeCoins 52 = .ok (.aload_n 0, 1) := by decide +kernel
theorem dX2_takeCoins_53 : decode cX2_takeCoins 53 = .ok (.getfield 36, 3) := by decide +kernel
theorem dX2_takeCoins_56 : decode cX2_takeCoins 56 = .ok (.iload_n 1, 1) := by decide +kernel
theorem dX2_takeCoins_57 : decode cX2_takeCoins 57 = .ok (.aload_n 0, 1) := by decide +kernel
theorem dX2_takeCoins_58 : decode cX2_takeCoins 58 = .ok (.getfield 36, 3) := by decide +kernel
theorem dX2_takeCoins_61 : decode cX2_takeCoins 61 = .ok (.iload_n 2, 1) := by decide +kernel
theorem dX2_takeCoins_62 : decode cX2_takeCoins 62 = .ok (.iaload, 1) := by decide +kernel
theorem dX2_takeCoins_63 : decode cX2_takeCoins 63 = .ok (.iastore, 1) := by decide +kernel
theorem dX2_takeCoins_64 : decode cX2_takeCoins 64 = .ok (.iinc 1 1, 3) := by decide +kernel
theorem dX2_takeCoins_67 : decode cX2_takeCoins 67 = .ok (.iinc 2 1, 3) := by decide +kernel
theorem dX2_takeCoins_70 : decode cX2_takeCoins 70 = .ok (.goto (-35), 3) := by decide +kernel
theorem dX2_takeCoins_73 : decode cX2_takeCoins 73 = .ok (.aload_n 0, 1) := by decide +kernel
theorem dX2_takeCoins_74 : decode cX2_takeCoins 74 = .ok (.iload_n 1, 1) := by decide +kernel
theorem dX2_takeCoins_75 : decode cX2_takeCoins 75 = .ok (.putfield 86, 3) := by decide +kernel
theorem dX2_takeCoins_78 : decode cX2_takeCoins 78 = .ok (.return_, 1) := by decide +kernel
abbrev mX2_addCoins : ks_M := (RX2, cX2_addCoins, 5, none, "addCoins")
theorem dX2_addCoins_0 : decode cX2_addCoins 0 = .ok (.iconst 0, 1) := by decide +kernel
theorem dX2_addCoins_1 : decode cX2_addCoins 1 = .ok (.istore_n 3, 1) := by decide +kernel
theorem dX2_addCoins_2 : decode cX2_addCoins 2 = .ok (.iload_n 3, 1) := by decide +kernel
theorem dX2_addCoins_3 : decode cX2_addCoins 3 = .ok (.aload_n 0, 1) := by decide +kernel
theorem dX2_addCoins_4 : decode cX2_addCoins 4 = .ok (.getfield 50, 3) := by decide +kernel
theorem dX2_addCoins_7 : decode cX2_addCoins 7 = .ok (.getfield 258, 3) := by decide +kernel
theorem dX2_addCoins_10 : decode cX2_addCoins 10 = .ok (.if_icmp .ge 104, 3) := by decide +kernel
theorem dX2_addCoins_13 : decode cX2_addCoins 13 = .ok (.aload_n 0, 1) := by decide +kernel
theorem dX2_addCoins_14 : decode cX2_addCoins 14 = .ok (.aload_n 0, 1) := by decide +kernel
theorem dX2_addCoins_15 : decode cX2_addCoins 15 = .ok (.getfield 36, 3) := by decide +kernel
theorem dX2_addCoins_18 : decode cX2_addCoins 18 = .ok (.aload_n 0, 1) := by decide +kernel
theorem dX2_addCoins_19 : decode cX2_addCoins 19 = .ok (.getfield 86, 3) := by decide +kernel
theorem dX2_addCoins_22 : decode cX2_addCoins 22 = .ok (.aload_n 0, 1) := by decide +kernel
theorem dX2_addCoins_23 : decode cX2_addCoins 23 = .ok (.getfield 13, 3) := by decide +kernel
theorem dX2_addCoins_26 : decode cX2_addCoins 26 = .ok (.iload_n 1, 1) := by decide +kernel
theorem dX2_addCoins_27 : decode cX2_addCoins 27 = .ok (.aaload, 1) := by decide +kernel
theorem dX2_addCoins_28 : decode cX2_addCoins 28 = .ok (.getfield 225, 3) := by decide +kernel
theorem dX2_addCoins_31 : decode cX2_addCoins 31 = .ok (.bipush 32, 2) := by decide +kernel
theorem dX2_addCoins_33 : decode cX2_addCoins 33 = .ok (.iload_n 2, 1) := by decide +kernel
theorem dX2_addCoins_34 : decode cX2_addCoins 34 = .ok (.imul, 1) := by decide +kernel
theorem dX2_addCoins_35 : decode cX2_addCoins 35 = .ok (.iload_n 3, 1) := by decide +kernel
theorem dX2_addCoins_36 : decode cX2_addCoins 36 = .ok (.invokevirtual 191, 3) := by decide +kernel
theorem dX2_addCoins_39 : decode cX2_addCoins 39 = .ok (.istore 4, 2) := by decide +kernel
theorem dX2_addCoins_41 : decode cX2_addCoins 41 = .ok (.iload 4, 2) := by decide +kernel
theorem dX2_addCoins_43 : decode cX2_addCoins 43 = .ok (.ifCond .ge 29, 3) := by decide +kernel
theorem dX2_addCoins_46 : decode cX2_addCoins 46 = .ok (.aload_n 0, 1) := by decide +kernel
theorem dX2_addCoins_47 : decode cX2_addCoins 47 = .ok (.getfield 86, 3) := by decide +kernel
theorem dX2_addCoins_50 : decode cX2_addCoins 50 = .ok (.sipush 580, 3) := by decide +kernel
theorem dX2_addCoins_53 : decode cX2_addCoins 53 = .ok (.if_icmp .ge 19, 3) := by decide +kernel
theorem dX2_addCoins_56 : decode cX2_addCoins 56 = .ok (.aload_n 0, 1) := by decide +kernel
theorem dX2_addCoins_57 : decode cX2_addCoins 57 = .ok (.getfield 86, 3) := by decide +kernel
theorem dX2_addCoins_60 : decode cX2_addCoins 60 = .ok (.istore 4, 2) := by decide +kernel
theorem dX2_addCoins_62 : decode cX2_addCoins 62 = .ok (.aload_n 0, 1) := by decide +kernel
theorem dX2_addCoins_63 : decode cX2_addCoins 63 = .ok (.dup, 1) := by decide +kernel
theorem dX2_addCoins_64 : decode cX2_addCoins 64 = .ok (.getfield 86, 3) := by decide +kernel
theorem dX2_addCoins_67 : decode cX2_addCoins 67 = .ok (.iconst 1, 1) := by decide +kernel
theorem dX2_addCoins_68 : decode cX2_addCoins 68 = .ok (.iadd, 1) := by decide +kernel
theorem dX2_addCoins_69 : decode cX2_addCoins 69 = .ok (.putfield 86, 3) := by decide +kernel
theorem dX2_addCoins_72 : decode cX2_addCoins 72 = .ok (.iload 4, 2) := by decide +kernel
theorem dX2_addCoins_74 : decode cX2_addCoins 74 = .ok (.ifCond .lt 34, 3) := by decide +kernel
theorem dX2_addCoins_77 : decode cX2_addCoins 77 = .ok (.aload_n 0, 1) := by decide +kernel
theorem dX2_addCoins_78 : decode cX2_addCoins 78 = .ok (.getfield 36, 3) := by decide +kernel
theorem dX2_addCoins_81 : decode cX2_addCoins 81 = .ok (.iload 4, 2) := by decide +kernel
theorem dX2_addCoins_83 : decode cX2_addCoins 83 = .ok (.iload_n 1, 1) := by decide +kernel
theorem dX2_addCoins_84 : decode cX2_addCoins 84 = .ok (.bipush 23, 2) := by decide +kernel
theorem dX2_addCoins_86 : decode cX2_addCoins 86 = .ok (.ishl, 1) := by decide +kernel
theorem dX2_addCoins_87 : decode cX2_addCoins 87 = .ok (.iload_n 2, 1) := by decide +kernel
theorem dX2_addCoins_88 : decode cX2_addCoins 88 = .ok (.bipush 19, 2) := by decide +kernel
theorem dX2_addCoins_90 : decode cX2_addCoins 90 = .ok (.ishl, 1) := by decide +kernel
theorem dX2_addCoins_91 : decode cX2_addCoins 91 = .ok (.ior, 1) := by decide +kernel
theorem dX2_addCoins_92 : decode cX2_addCoins 92 = .ok (.iload_n 3, 1) := by decide +kernel
theorem dX2_addCoins_93 : decode cX2_addCoins 93 = .ok (.bipush 11, 2) := by decide +kernel
theorem dX2_addCoins_95 : decode cX2_addCoins 95 = .ok (.ishl, 1) := by decide +kernel
theorem dX2_addCoins_96 : decode cX2_addCoins 96 = .ok (.ior, 1) := by decide +kernel
theorem dX2_addCoins_97 : decode cX2_addCoins 97 = .ok (.aload_n 0, 1) := by decide +kernel
theorem dX2_addCoins_98 : decode cX2_addCoins 98 = .ok (.getfield 50, 3) := by decide +kernel
theorem dX2_addCoins_101 : decode cX2_addCoins 101 = .ok (.getfield 261, 3) := by decide +kernel
theorem dX2_addCoins_104 : decode cX2_addCoins 104 = .ok (.iload_n 3, 1) := by decide +kernel
theorem dX2_addCoins_105 : decode cX2_addCoins 105 = .ok (.iaload, 1) := by decide +kernel
theorem dX2_addCoins_106 : decode cX2_addCoins 106 = .ok (.ior, 1) := by decide +kernel
theorem dX2_addCoins_107 : decode cX2_addCoins 107 = .ok (.iastore, 1) := by decide +kernel
theorem dX2_addCoins_108 : decode cX2_addCoins 108 = .ok (.iinc 3 1, 3) := by decide +kernel
theorem dX2_addCoins_111 : decode cX2_addCoins 111 = .ok (.goto (-109), 3) := by decide +kernel
theorem dX2_addCoins_114 : decode cX2_addCoins 114 = .ok (.return_, 1) := by decide +kernel
abbrev mX2_placeOf : ks_M := (RX2, cX2_placeOf, 8, (some .int), "placeOf")
theorem dX2_placeOf_0 : decode cX2_placeOf 0 = .ok (.iconst 0, 1) := by decide +kernel
theorem dX2_placeOf_1 : decode cX2_placeOf 1 = .ok (.istore 6, 2) := by decide +kernel
theorem dX2_placeOf_3 : decode cX2_placeOf 3 = .ok (.iload 6, 2) := by decide +kernel
theorem dX2_placeOf_5 : decode cX2_placeOf 5 = .ok (.iload_n 2, 1) := by decide +kernel
theorem dX2_placeOf_6 : decode cX2_placeOf 6 = .ok (.if_icmp .ge 58, 3) := by decide +kernel
theorem dX2_placeOf_9 : decode cX2_placeOf 9 = .ok (.aload_n 1, 1) := by decide +kernel
theorem dX2_placeOf_10 : decode cX2_placeOf 10 = .ok (.iload 6, 2) := by decide +kernel
theorem dX2_placeOf_12 : decode cX2_placeOf 12 = .ok (.iaload, 1) := by decide +kernel
theorem dX2_placeOf_13 : decode cX2_placeOf 13 = .ok (.istore 7, 2) := by decide +kernel
theorem dX2_placeOf_15 : decode cX2_placeOf 15 = .ok (.iload 7, 2) := by decide +kernel
theorem dX2_placeOf_17 : decode cX2_placeOf 17 = .ok (.invokestatic 264, 3) := by decide +kernel
theorem dX2_placeOf_20 : decode cX2_placeOf 20 = .ok (.iload 5, 2) := by decide +kernel
theorem dX2_placeOf_22 : decode cX2_placeOf 22 = .ok (.if_icmp .ne 36, 3) := by decide +kernel
theorem dX2_placeOf_25 : decode cX2_placeOf 25 = .ok (.aload_n 0, 1) := by decide +kernel
theorem dX2_placeOf_26 : decode cX2_placeOf 26 = .ok (.getfield 13, 3) := by decide +kernel
theorem dX2_placeOf_29 : decode cX2_placeOf 29 = .ok (.iload 7, 2) := by decide +kernel
theorem dX2_placeOf_31 : decode cX2_placeOf 31 = .ok (.invokestatic 154, 3) := by decide +kernel
theorem dX2_placeOf_34 : decode cX2_placeOf 34 = .ok (.aaload, 1) := by decide +kernel
theorem dX2_placeOf_35 : decode cX2_placeOf 35 = .ok (.getfield 225, 3) := by decide +kernel
theorem dX2_placeOf_38 : decode cX2_placeOf 38 = .ok (.bipush 32, 2) := by decide +kernel
theorem dX2_placeOf_40 : decode cX2_placeOf 40 = .ok (.iload 7, 2) := by decide +kernel
theorem dX2_placeOf_42 : decode cX2_placeOf 42 = .ok (.invokestatic 253, 3) := by decide +kernel
theorem dX2_placeOf_45 : decode cX2_placeOf 45 = .ok (.imul, 1) := by decide +kernel
theorem dX2_placeOf_46 : decode cX2_placeOf 46 = .ok (.aload_n 3, 1) := by decide +kernel
theorem dX2_placeOf_47 : decode cX2_placeOf 47 = .ok (.iload 4, 2) := by decide +kernel
theorem dX2_placeOf_49 : decode cX2_placeOf 49 = .ok (.invokestatic 233, 3) := by decide +kernel
theorem dX2_placeOf_52 : decode cX2_placeOf 52 = .ok (.ifCond .eq 6, 3) := by decide +kernel
theorem dX2_placeOf_55 : decode cX2_placeOf 55 = .ok (.iload 6, 2) := by decide +kernel
theorem dX2_placeOf_57 : decode cX2_placeOf 57 = .ok (.ireturn, 1) := by decide +kernel
theorem dX2_placeOf_58 : decode cX2_placeOf 58 = .ok (.iinc 6 1, 3) := by decide +kernel
theorem dX2_placeOf_61 : decode cX2_placeOf 61 = .ok (.goto (-58), 3) := by decide +kernel
theorem dX2_placeOf_64 : decode cX2_placeOf 64 = .ok (.iconst (-1), 1) := by decide +kernel
theorem dX2_placeOf_65 : decode cX2_placeOf 65 = .ok (.ireturn, 1) := by decide +kernel
abbrev mX2_blockOf : ks_M := (RX2, cX2_blockOf, 1, (some .int), "blockOf")
theorem dX2_blockOf_0 : decode cX2_blockOf 0 = .ok (.iload_n 0, 1) := by decide +kernel
theorem dX2_blockOf_1 : decode cX2_blockOf 1 = .ok (.bipush 23, 2) := by decide +kernel
theorem dX2_blockOf_3 : decode cX2_blockOf 3 = .ok (.iushr, 1) := by decide +kernel
theorem dX2_blockOf_4 : decode cX2_blockOf 4 = .ok (.ireturn, 1) := by decide +kernel
abbrev mX2_transactionOf : ks_M := (RX2, cX2_transactionOf, 1, (some .int), "transactionOf")
theorem dX2_transactionOf_0 : decode cX2_transactionOf 0 = .ok (.iload_n 0, 1) := by decide +kernel
theorem dX2_transactionOf_1 : decode cX2_transactionOf 1 = .ok (.bipush 19, 2) := by decide +kernel
theorem dX2_transactionOf_3 : decode cX2_transactionOf 3 = .ok (.iushr, 1) := by decide +kernel
theorem dX2_transactionOf_4 : decode cX2_transactionOf 4 = .ok (.bipush 15, 2) := by decide +kernel
theorem dX2_transactionOf_6 : decode cX2_transactionOf 6 = .ok (.iand, 1) := by decide +kernel
theorem dX2_transactionOf_7 : decode cX2_transactionOf 7 = .ok (.ireturn, 1) := by decide +kernel
abbrev mX2_outputOf : ks_M := (RX2, cX2_outputOf, 1, (some .int), "outputOf")
theorem dX2_outputOf_0 : decode cX2_outputOf 0 = .ok (.iload_n 0, 1) := by decide +kernel
theorem dX2_outputOf_1 : decode cX2_outputOf 1 = .ok (.bipush 11, 2) := by decide +kernel
theorem dX2_outputOf_3 : decode cX2_outputOf 3 = .ok (.iushr, 1) := by decide +kernel
theorem dX2_outputOf_4 : decode cX2_outputOf 4 = .ok (.sipush 255, 3) := by decide +kernel
theorem dX2_outputOf_7 : decode cX2_outputOf 7 = .ok (.iand, 1) := by decide +kernel
theorem dX2_outputOf_8 : decode cX2_outputOf 8 = .ok (.ireturn, 1) := by decide +kernel
abbrev mX2_value : ks_M := (RX2, cX2_value, 2, (some .long), "value")
theorem dX2_value_0 : decode cX2_value 0 = .ok (.aload_n 0, 1) := by decide +kernel
theorem dX2_value_1 : decode cX2_value 1 = .ok (.getfield 13, 3) := by decide +kernel
theorem dX2_value_4 : decode cX2_value 4 = .ok (.iload_n 1, 1) := by decide +kernel
theorem dX2_value_5 : decode cX2_value 5 = .ok (.invokestatic 154, 3) := by decide +kernel
theorem dX2_value_8 : decode cX2_value 8 = .ok (.aaload, 1) := by decide +kernel
theorem dX2_value_9 : decode cX2_value 9 = .ok (.getfield 107, 3) := by decide +kernel
theorem dX2_value_12 : decode cX2_value 12 = .ok (.iload_n 1, 1) := by decide +kernel
theorem dX2_value_13 : decode cX2_value 13 = .ok (.sipush 2047, 3) := by decide +kernel
theorem dX2_value_16 : decode cX2_value 16 = .ok (.iand, 1) := by decide +kernel
theorem dX2_value_17 : decode cX2_value 17 = .ok (.bipush 8, 2) := by decide +kernel
theorem dX2_value_19 : decode cX2_value 19 = .ok (.invokestatic 247, 3) := by decide +kernel
theorem dX2_value_22 : decode cX2_value 22 = .ok (.lreturn, 1) := by decide +kernel
abbrev mX2_scriptAt : ks_M := (RX2, cX2_scriptAt, 3, (some .int), "scriptAt")
theorem dX2_scriptAt_0 : decode cX2_scriptAt 0 = .ok (.iload_n 1, 1) := by decide +kernel
theorem dX2_scriptAt_1 : decode cX2_scriptAt 1 = .ok (.sipush 2047, 3) := by decide +kernel
theorem dX2_scriptAt_4 : decode cX2_scriptAt 4 = .ok (.iand, 1) := by decide +kernel
theorem dX2_scriptAt_5 : decode cX2_scriptAt 5 = .ok (.bipush 8, 2) := by decide +kernel
theorem dX2_scriptAt_7 : decode cX2_scriptAt 7 = .ok (.iadd, 1) := by decide +kernel
theorem dX2_scriptAt_8 : decode cX2_scriptAt 8 = .ok (.istore_n 2, 1) := by decide +kernel
theorem dX2_scriptAt_9 : decode cX2_scriptAt 9 = .ok (.iload_n 2, 1) := by decide +kernel
theorem dX2_scriptAt_10 : decode cX2_scriptAt 10 = .ok (.aload_n 0, 1) := by decide +kernel
theorem dX2_scriptAt_11 : decode cX2_scriptAt 11 = .ok (.iload_n 2, 1) := by decide +kernel
theorem dX2_scriptAt_12 : decode cX2_scriptAt 12 = .ok (.baload, 1) := by decide +kernel
theorem dX2_scriptAt_13 : decode cX2_scriptAt 13 = .ok (.bipush (-3), 2) := by decide +kernel
theorem dX2_scriptAt_15 : decode cX2_scriptAt 15 = .ok (.if_icmp .ne 7, 3) := by decide +kernel
theorem dX2_scriptAt_18 : decode cX2_scriptAt 18 = .ok (.iconst 3, 1) := by decide +kernel
theorem dX2_scriptAt_19 : decode cX2_scriptAt 19 = .ok (.goto 4, 3) := by decide +kernel
theorem dX2_scriptAt_22 : decode cX2_scriptAt 22 = .ok (.iconst 1, 1) := by decide +kernel
theorem dX2_scriptAt_23 : decode cX2_scriptAt 23 = .ok (.iadd, 1) := by decide +kernel
theorem dX2_scriptAt_24 : decode cX2_scriptAt 24 = .ok (.ireturn, 1) := by decide +kernel
abbrev mX2_scriptSize : ks_M := (RX2, cX2_scriptSize, 3, (some .int), "scriptSize")
theorem dX2_scriptSize_0 : decode cX2_scriptSize 0 = .ok (.iload_n 1, 1) := by decide +kernel
theorem dX2_scriptSize_1 : decode cX2_scriptSize 1 = .ok (.sipush 2047, 3) := by decide +kernel
theorem dX2_scriptSize_4 : decode cX2_scriptSize 4 = .ok (.iand, 1) := by decide +kernel
theorem dX2_scriptSize_5 : decode cX2_scriptSize 5 = .ok (.bipush 8, 2) := by decide +kernel
theorem dX2_scriptSize_7 : decode cX2_scriptSize 7 = .ok (.iadd, 1) := by decide +kernel
theorem dX2_scriptSize_8 : decode cX2_scriptSize 8 = .ok (.istore_n 2, 1) := by decide +kernel
theorem dX2_scriptSize_9 : decode cX2_scriptSize 9 = .ok (.aload_n 0, 1) := by decide +kernel
theorem dX2_scriptSize_10 : decode cX2_scriptSize 10 = .ok (.iload_n 2, 1) := by decide +kernel
theorem dX2_scriptSize_11 : decode cX2_scriptSize 11 = .ok (.baload, 1) := by decide +kernel
theorem dX2_scriptSize_12 : decode cX2_scriptSize 12 = .ok (.bipush (-3), 2) := by decide +kernel
theorem dX2_scriptSize_14 : decode cX2_scriptSize 14 = .ok (.if_icmp .ne 15, 3) := by decide +kernel
theorem dX2_scriptSize_17 : decode cX2_scriptSize 17 = .ok (.aload_n 0, 1) := by decide +kernel
theorem dX2_scriptSize_18 : decode cX2_scriptSize 18 = .ok (.iload_n 2, 1) := by decide +kernel
theorem dX2_scriptSize_19 : decode cX2_scriptSize 19 = .ok (.iconst 1, 1) := by decide +kernel
theorem dX2_scriptSize_20 : decode cX2_scriptSize 20 = .ok (.iadd, 1) := by decide +kernel
theorem dX2_scriptSize_21 : decode cX2_scriptSize 21 = .ok (.iconst 2, 1) := by decide +kernel
theorem dX2_scriptSize_22 : decode cX2_scriptSize 22 = .ok (.invokestatic 247, 3) := by decide +kernel
theorem dX2_scriptSize_25 : decode cX2_scriptSize 25 = .ok (.l2i, 1) := by decide +kernel
theorem dX2_scriptSize_26 : decode cX2_scriptSize 26 = .ok (.goto 10, 3) := by decide +kernel
theorem dX2_scriptSize_29 : decode cX2_scriptSize 29 = .ok (.aload_n 0, 1) := by decide +kernel
theorem dX2_scriptSize_30 : decode cX2_scriptSize 30 = .ok (.iload_n 2, 1) := by decide +kernel
theorem dX2_scriptSize_31 : decode cX2_scriptSize 31 = .ok (.baload, 1) := by decide +kernel
theorem dX2_scriptSize_32 : decode cX2_scriptSize 32 = .ok (.sipush 255, 3) := by decide +kernel
theorem dX2_scriptSize_35 : decode cX2_scriptSize 35 = .ok (.iand, 1) := by decide +kernel
theorem dX2_scriptSize_36 : decode cX2_scriptSize 36 = .ok (.ireturn, 1) := by decide +kernel
theorem cl_X11 : vwCl[14]? = some (RX11, TX11, 16) := rfl
theorem in_X11 : ∀ w ∈ u_ws RX11 TX11 16, w ∈ lw_tbl ∧ goodWord w = true := by decide +kernel
abbrev mX11_init : ks_M := (RX11, cX11_init, 2, none, "<init>")
theorem dX11_init_0 : decode cX11_init 0 = .ok (.aload_n 0, 1) := by decide +kernel
theorem dX11_init_1 : decode cX11_init 1 = .ok (.invokespecial 1, 3) := by decide +kernel
theorem dX11_init_4 : decode cX11_init 4 = .ok (.aload_n 0, 1) := by decide +kernel
theorem dX11_init_5 : decode cX11_init 5 = .ok (.new 7, 3) := by decide +kernel
theorem dX11_init_8 : decode cX11_init 8 = .ok (.dup, 1) := by decide +kernel
theorem dX11_init_9 : decode cX11_init 9 = .ok (.sipush 1600, 3) := by decide +kernel
theorem dX11_init_12 : decode cX11_init 12 = .ok (.invokespecial 11, 3) := by decide +kernel
theorem dX11_init_15 : decode cX11_init 15 = .ok (.putfield 14, 3) := by decide +kernel
theorem dX11_init_18 : decode cX11_init 18 = .ok (.aload_n 0, 1) := by decide +kernel
theorem dX11_init_19 : decode cX11_init 19 = .ok (.new 7, 3) := by decide +kernel
theorem dX11_init_22 : decode cX11_init 22 = .ok (.dup, 1) := by decide +kernel
theorem dX11_init_23 : decode cX11_init 23 = .ok (.sipush 1600, 3) := by decide +kernel
theorem dX11_init_26 : decode cX11_init 26 = .ok (.invokespecial 11, 3) := by decide +kernel
theorem dX11_init_29 : decode cX11_init 29 = .ok (.putfield 18, 3) := by decide +kernel
theorem dX11_init_32 : decode cX11_init 32 = .ok (.aload_n 0, 1) := by decide +kernel
theorem dX11_init_33 : decode cX11_init 33 = .ok (.new 7, 3) := by decide +kernel
theorem dX11_init_36 : decode cX11_init 36 = .ok (.dup, 1) := by decide +kernel
theorem dX11_init_37 : decode cX11_init 37 = .ok (.sipush 8000, 3) := by decide +kernel
theorem dX11_init_40 : decode cX11_init 40 = .ok (.invokespecial 11, 3) := by decide +kernel
theorem dX11_init_43 : decode cX11_init 43 = .ok (.putfield 21, 3) := by decide +kernel
theorem dX11_init_46 : decode cX11_init 46 = .ok (.aload_n 0, 1) := by decide +kernel
theorem dX11_init_47 : decode cX11_init 47 = .ok (.new 24, 3) := by decide +kernel
theorem dX11_init_50 : decode cX11_init 50 = .ok (.dup, 1) := by decide +kernel
theorem dX11_init_51 : decode cX11_init 51 = .ok (.invokespecial 26, 3) := by decide +kernel
theorem dX11_init_54 : decode cX11_init 54 = .ok (.putfield 27, 3) := by decide +kernel
theorem dX11_init_57 : decode cX11_init 57 = .ok (.aload_n 0, 1) := by decide +kernel
theorem dX11_init_58 : decode cX11_init 58 = .ok (.new 31, 3) := by decide +kernel
theorem dX11_init_61 : decode cX11_init 61 = .ok (.dup, 1) := by decide +kernel
theorem dX11_init_62 : decode cX11_init 62 = .ok (.invokespecial 33, 3) := by decide +kernel
theorem dX11_init_65 : decode cX11_init 65 = .ok (.putfield 34, 3) := by decide +kernel
theorem dX11_init_68 : decode cX11_init 68 = .ok (.aload_n 0, 1) := by decide +kernel
theorem dX11_init_69 : decode cX11_init 69 = .ok (.new 38, 3) := by decide +kernel
theorem dX11_init_72 : decode cX11_init 72 = .ok (.dup, 1) := by decide +kernel
theorem dX11_init_73 : decode cX11_init 73 = .ok (.invokespecial 40, 3) := by decide +kernel
theorem dX11_init_76 : decode cX11_init 76 = .ok (.putfield 41, 3) := by decide +kernel
theorem dX11_init_79 : decode cX11_init 79 = .ok (.aload_n 0, 1) := by decide +kernel
theorem dX11_init_80 : decode cX11_init 80 = .ok (.new 45, 3) := by decide +kernel
theorem dX11_init_83 : decode cX11_init 83 = .ok (.dup, 1) := by decide +kernel
theorem dX11_init_84 : decode cX11_init 84 = .ok (.aload_n 0, 1) := by decide +kernel
theorem dX11_init_85 : decode cX11_init 85 = .ok (.getfield 27, 3) := by decide +kernel
theorem dX11_init_88 : decode cX11_init 88 = .ok (.aload_n 0, 1) := by decide +kernel
theorem dX11_init_89 : decode cX11_init 89 = .ok (.getfield 34, 3) := by decide +kernel
theorem dX11_init_92 : decode cX11_init 92 = .ok (.invokespecial 47, 3) := by decide +kernel
theorem dX11_init_95 : decode cX11_init 95 = .ok (.putfield 50, 3) := by decide +kernel
theorem dX11_init_98 : decode cX11_init 98 = .ok (.aload_n 0, 1) := by decide +kernel
theorem dX11_init_99 : decode cX11_init 99 = .ok (.new 54, 3) := by decide +kernel
theorem dX11_init_102 : decode cX11_init 102 = .ok (.dup, 1) := by decide +kernel
theorem dX11_init_103 : decode cX11_init 103 = .ok (.aload_n 0, 1) := by decide +kernel
theorem dX11_init_104 : decode cX11_init 104 = .ok (.getfield 27, 3) := by decide +kernel
theorem dX11_init_107 : decode cX11_init 107 = .ok (.aload_n 0, 1) := by decide +kernel
theorem dX11_init_108 : decode cX11_init 108 = .ok (.getfield 50, 3) := by decide +kernel
theorem dX11_init_111 : decode cX11_init 111 = .ok (.aload_n 0, 1) := by decide +kernel
theorem dX11_init_112 : decode cX11_init 112 = .ok (.getfield 41, 3) := by decide +kernel
theorem dX11_init_115 : decode cX11_init 115 = .ok (.invokespecial 56, 3) := by decide +kernel
theorem dX11_init_118 : decode cX11_init 118 = .ok (.putfield 59, 3) := by decide +kernel
theorem dX11_init_121 : decode cX11_init 121 = .ok (.aload_n 0, 1) := by decide +kernel
theorem dX11_init_122 : decode cX11_init 122 = .ok (.bipush 12, 2) := by decide +kernel
theorem dX11_init_124 : decode cX11_init 124 = .ok (.anewarray 63, 3) := by decide +kernel
theorem dX11_init_127 : decode cX11_init 127 = .ok (.putfield 65, 3) := by decide +kernel
theorem dX11_init_130 : decode cX11_init 130 = .ok (.aload_n 0, 1) := by decide +kernel
theorem dX11_init_131 : decode cX11_init 131 = .ok (.sipush 384, 3) := by decide +kernel
theorem dX11_init_134 : decode cX11_init 134 = .ok (.newarray .byte, 2) := by decide +kernel
theorem dX11_init_136 : decode cX11_init 136 = .ok (.putfield 69, 3) := by decide +kernel
theorem dX11_init_139 : decode cX11_init 139 = .ok (.aload_n 0, 1) := by decide +kernel
theorem dX11_init_140 : decode cX11_init 140 = .ok (.bipush 32, 2) := by decide +kernel
theorem dX11_init_142 : decode cX11_init 142 = .ok (.newarray .byte, 2) := by decide +kernel
theorem dX11_init_144 : decode cX11_init 144 = .ok (.putfield 73, 3) := by decide +kernel
theorem dX11_init_147 : decode cX11_init 147 = .ok (.aload_n 0, 1) := by decide +kernel
theorem dX11_init_148 : decode cX11_init 148 = .ok (.bipush 32, 2) := by decide +kernel
theorem dX11_init_150 : decode cX11_init 150 = .ok (.newarray .byte, 2) := by decide +kernel
theorem dX11_init_152 : decode cX11_init 152 = .ok (.putfield 76, 3) := by decide +kernel
theorem dX11_init_155 : decode cX11_init 155 = .ok (.iconst 0, 1) := by decide +kernel
theorem dX11_init_156 : decode cX11_init 156 = .ok (.istore_n 1, 1) := by decide +kernel
theorem dX11_init_157 : decode cX11_init 157 = .ok (.iload_n 1, 1) := by decide +kernel
theorem dX11_init_158 : decode cX11_init 158 = .ok (.bipush 12, 2) := by decide +kernel
theorem dX11_init_160 : decode cX11_init 160 = .ok (.if_icmp .ge 22, 3) := by decide +kernel
theorem dX11_init_163 : decode cX11_init 163 = .ok (.aload_n 0, 1) := by decide +kernel
theorem dX11_init_164 : decode cX11_init 164 = .ok (.getfield 65, 3) := by decide +kernel
theorem dX11_init_167 : decode cX11_init 167 = .ok (.iload_n 1, 1) := by decide +kernel
theorem dX11_init_168 : decode cX11_init 168 = .ok (.new 63, 3) := by decide +kernel
theorem dX11_init_171 : decode cX11_init 171 = .ok (.dup, 1) := by decide +kernel
theorem dX11_init_172 : decode cX11_init 172 = .ok (.invokespecial 79, 3) := by decide +kernel
theorem dX11_init_175 : decode cX11_init 175 = .ok (.aastore, 1) := by decide +kernel
theorem dX11_init_176 : decode cX11_init 176 = .ok (.iinc 1 1, 3) := by decide +kernel
theorem dX11_init_179 : decode cX11_init 179 = .ok (.goto (-22), 3) := by decide +kernel
theorem dX11_init_182 : decode cX11_init 182 = .ok (.aload_n 0, 1) := by decide +kernel
theorem dX11_init_183 : decode cX11_init 183 = .ok (.invokevirtual 80, 3) := by decide +kernel
theorem dX11_init_186 : decode cX11_init 186 = .ok (.aload_n 0, 1) := by decide +kernel
theorem dX11_init_187 : decode cX11_init 187 = .ok (.iconst 0, 1) := by decide +kernel
theorem dX11_init_188 : decode cX11_init 188 = .ok (.putfield 83, 3) := by decide +kernel
theorem dX11_init_191 : decode cX11_init 191 = .ok (.aload_n 0, 1) := by decide +kernel
theorem dX11_init_192 : decode cX11_init 192 = .ok (.ldc2_w 87, 3) := by decide +kernel
theorem dX11_init_195 : decode cX11_init 195 = .ok (.putfield 89, 3) := by decide +kernel
theorem dX11_init_198 : decode cX11_init 198 = .ok (.return_, 1) := by decide +kernel
abbrev mX11_feed : ks_M := (RX11, cX11_feed, 6, (some .int), "feed")
theorem dX11_feed_0 : decode cX11_feed 0 = .ok (.aload_n 0, 1) := by decide +kernel
theorem dX11_feed_1 : decode cX11_feed 1 = .ok (.getfield 14, 3) := by decide +kernel
theorem dX11_feed_4 : decode cX11_feed 4 = .ok (.getfield 93, 3) := by decide +kernel
theorem dX11_feed_7 : decode cX11_feed 7 = .ok (.bipush 20, 2) := by decide +kernel
theorem dX11_feed_9 : decode cX11_feed 9 = .ok (.iadd, 1) := by decide +kernel
theorem dX11_feed_10 : decode cX11_feed 10 = .ok (.sipush 1600, 3) := by decide +kernel
theorem dX11_feed_13 : decode cX11_feed 13 = .ok (.if_icmp .le 11, 3) := by decide +kernel
theorem dX11_feed_16 : decode cX11_feed 16 = .ok (.new 96, 3) := by decide +kernel
theorem dX11_feed_19 : decode cX11_feed 19 = .ok (.dup, 1) := by decide +kernel
theorem dX11_feed_20 : decode cX11_feed 20 = .ok (.invokespecial 98, 3) := by decide +kernel
theorem dX11_feed_23 : decode cX11_feed 23 = .ok (.athrow, 1) := by decide +kernel
theorem dX11_feed_24 : decode cX11_feed 24 = .ok (.aload_n 0, 1) := by decide +kernel
theorem dX11_feed_25 : decode cX11_feed 25 = .ok (.getfield 14, 3) := by decide +kernel
theorem dX11_feed_28 : decode cX11_feed 28 = .ok (.iload_n 1, 1) := by decide +kernel
theorem dX11_feed_29 : decode cX11_feed 29 = .ok (.invokevirtual 99, 3) := by decide +kernel
theorem dX11_feed_32 : decode cX11_feed 32 = .ok (.aload_n 0, 1) := by decide +kernel
theorem dX11_feed_33 : decode cX11_feed 33 = .ok (.getfield 14, 3) := by decide +kernel
theorem dX11_feed_36 : decode cX11_feed 36 = .ok (.iload_n 2, 1) := by decide +kernel
theorem dX11_feed_37 : decode cX11_feed 37 = .ok (.invokevirtual 99, 3) := by decide +kernel
theorem dX11_feed_40 : decode cX11_feed 40 = .ok (.aload_n 0, 1) := by decide +kernel
theorem dX11_feed_41 : decode cX11_feed 41 = .ok (.getfield 14, 3) := by decide +kernel
theorem dX11_feed_44 : decode cX11_feed 44 = .ok (.iload_n 3, 1) := by decide +kernel
theorem dX11_feed_45 : decode cX11_feed 45 = .ok (.invokevirtual 99, 3) := by decide +kernel
theorem dX11_feed_48 : decode cX11_feed 48 = .ok (.aload_n 0, 1) := by decide +kernel
theorem dX11_feed_49 : decode cX11_feed 49 = .ok (.getfield 14, 3) := by decide +kernel
theorem dX11_feed_52 : decode cX11_feed 52 = .ok (.iload 4, 2) := by decide +kernel
theorem dX11_feed_54 : decode cX11_feed 54 = .ok (.invokevirtual 99, 3) := by decide +kernel
theorem dX11_feed_57 : decode cX11_feed 57 = .ok (.aload_n 0, 1) := by decide +kernel
theorem dX11_feed_58 : decode cX11_feed 58 = .ok (.getfield 14, 3) := by decide +kernel
theorem dX11_feed_61 : decode cX11_feed 61 = .ok (.iload 5, 2) := by decide +kernel
theorem dX11_feed_63 : decode cX11_feed 63 = .ok (.invokevirtual 99, 3) := by decide +kernel
theorem dX11_feed_66 : decode cX11_feed 66 = .ok (.aload_n 0, 1) := by decide +kernel
theorem dX11_feed_67 : decode cX11_feed 67 = .ok (.getfield 14, 3) := by decide +kernel
theorem dX11_feed_70 : decode cX11_feed 70 = .ok (.getfield 93, 3) := by decide +kernel
theorem dX11_feed_73 : decode cX11_feed 73 = .ok (.ireturn, 1) := by decide +kernel
abbrev mX11_end : ks_M := (RX11, cX11_end, 2, (some .int), "end")
theorem dX11_end_0 : decode cX11_end 0 = .ok (.iload_n 1, 1) := by decide +kernel
theorem dX11_end_1 : decode cX11_end 1 = .ok (.ifCond .lt 14, 3) := by decide +kernel
theorem dX11_end_4 : decode cX11_end 4 = .ok (.iload_n 1, 1) := by decide +kernel
theorem dX11_end_5 : decode cX11_end 5 = .ok (.aload_n 0, 1) := by decide +kernel
theorem dX11_end_6 : decode cX11_end 6 = .ok (.getfield 14, 3) := by decide +kernel
theorem dX11_end_9 : decode cX11_end 9 = .ok (.getfield 93, 3) := by decide +kernel
theorem dX11_end_12 : decode cX11_end 12 = .ok (.if_icmp .le 11, 3) := by decide +kernel
theorem dX11_end_15 : decode cX11_end 15 = .ok (.new 102, 3) := by decide +kernel
theorem dX11_end_18 : decode cX11_end 18 = .ok (.dup, 1) := by decide +kernel
theorem dX11_end_19 : decode cX11_end 19 = .ok (.invokespecial 104, 3) := by decide +kernel
theorem dX11_end_22 : decode cX11_end 22 = .ok (.athrow, 1) := by decide +kernel
theorem dX11_end_23 : decode cX11_end 23 = .ok (.aload_n 0, 1) := by decide +kernel
theorem dX11_end_24 : decode cX11_end 24 = .ok (.getfield 14, 3) := by decide +kernel
theorem dX11_end_27 : decode cX11_end 27 = .ok (.iload_n 1, 1) := by decide +kernel
theorem dX11_end_28 : decode cX11_end 28 = .ok (.putfield 93, 3) := by decide +kernel
theorem dX11_end_31 : decode cX11_end 31 = .ok (.iload_n 1, 1) := by decide +kernel
theorem dX11_end_32 : decode cX11_end 32 = .ok (.ireturn, 1) := by decide +kernel
abbrev mX11_patch : ks_M := (RX11, cX11_patch, 4, (some .int), "patch")
theorem dX11_patch_0 : decode cX11_patch 0 = .ok (.iload_n 1, 1) := by decide +kernel
theorem dX11_patch_1 : decode cX11_patch 1 = .ok (.ifCond .lt 14, 3) := by decide +kernel
theorem dX11_patch_4 : decode cX11_patch 4 = .ok (.iload_n 1, 1) := by decide +kernel
theorem dX11_patch_5 : decode cX11_patch 5 = .ok (.aload_n 0, 1) := by decide +kernel
theorem dX11_patch_6 : decode cX11_patch 6 = .ok (.getfield 14, 3) := by decide +kernel
theorem dX11_patch_9 : decode cX11_patch 9 = .ok (.getfield 93, 3) := by decide +kernel
theorem dX11_patch_12 : decode cX11_patch 12 = .ok (.if_icmp .lt 11, 3) := by decide +kernel
theorem dX11_patch_15 : decode cX11_patch 15 = .ok (.new 102, 3) := by decide +kernel
theorem dX11_patch_18 : decode cX11_patch 18 = .ok (.dup, 1) := by decide +kernel
theorem dX11_patch_19 : decode cX11_patch 19 = .ok (.invokespecial 104, 3) := by decide +kernel
theorem dX11_patch_22 : decode cX11_patch 22 = .ok (.athrow, 1) := by decide +kernel
theorem dX11_patch_23 : decode cX11_patch 23 = .ok (.aload_n 0, 1) := by decide +kernel
theorem dX11_patch_24 : decode cX11_patch 24 = .ok (.getfield 14, 3) := by decide +kernel
theorem dX11_patch_27 : decode cX11_patch 27 = .ok (.getfield 105, 3) := by decide +kernel
theorem dX11_patch_30 : decode cX11_patch 30 = .ok (.iload_n 1, 1) := by decide +kernel
theorem dX11_patch_31 : decode cX11_patch 31 = .ok (.baload, 1) := by decide +kernel
theorem dX11_patch_32 : decode cX11_patch 32 = .ok (.sipush 255, 3) := by decide +kernel
theorem dX11_patch_35 : decode cX11_patch 35 = .ok (.iand, 1) := by decide +kernel
theorem dX11_patch_36 : decode cX11_patch 36 = .ok (.istore_n 3, 1) := by decide +kernel
theorem dX11_patch_37 : decode cX11_patch 37 = .ok (.aload_n 0, 1) := by decide +kernel
theorem dX11_patch_38 : decode cX11_patch 38 = .ok (.getfield 14, 3) := by decide +kernel
theorem dX11_patch_41 : decode cX11_patch 41 = .ok (.getfield 105, 3) := by decide +kernel
theorem dX11_patch_44 : decode cX11_patch 44 = .ok (.iload_n 1, 1) := by decide +kernel
theorem dX11_patch_45 : decode cX11_patch 45 = .ok (.iload_n 2, 1) := by decide +kernel
theorem dX11_patch_46 : decode cX11_patch 46 = .ok (.i2b, 1) := by decide +kernel
theorem dX11_patch_47 : decode cX11_patch 47 = .ok (.bastore, 1) := by decide +kernel
theorem dX11_patch_48 : decode cX11_patch 48 = .ok (.iload_n 3, 1) := by decide +kernel
theorem dX11_patch_49 : decode cX11_patch 49 = .ok (.ireturn, 1) := by decide +kernel
abbrev mX11_key : ks_M := (RX11, cX11_key, 4, (some .int), "key")
theorem dX11_key_0 : decode cX11_key 0 = .ok (.iload_n 1, 1) := by decide +kernel
theorem dX11_key_1 : decode cX11_key 1 = .ok (.iconst 1, 1) := by decide +kernel
theorem dX11_key_2 : decode cX11_key 2 = .ok (.if_icmp .lt 12, 3) := by decide +kernel
theorem dX11_key_5 : decode cX11_key 5 = .ok (.iload_n 2, 1) := by decide +kernel
theorem dX11_key_6 : decode cX11_key 6 = .ok (.ifCond .lt 8, 3) := by decide +kernel
theorem dX11_key_9 : decode cX11_key 9 = .ok (.iload_n 2, 1) := by decide +kernel
theorem dX11_key_10 : decode cX11_key 10 = .ok (.iconst 2, 1) := by decide +kernel
theorem dX11_key_11 : decode cX11_key 11 = .ok (.if_icmp .le 11, 3) := by decide +kernel
theorem dX11_key_14 : decode cX11_key 14 = .ok (.new 102, 3) := by decide +kernel
theorem dX11_key_17 : decode cX11_key 17 = .ok (.dup, 1) := by decide +kernel
theorem dX11_key_18 : decode cX11_key 18 = .ok (.invokespecial 104, 3) := by decide +kernel
theorem dX11_key_21 : decode cX11_key 21 = .ok (.athrow, 1) := by decide +kernel
theorem dX11_key_22 : decode cX11_key 22 = .ok (.iload_n 2, 1) := by decide +kernel
theorem dX11_key_23 : decode cX11_key 23 = .ok (.ifCond .ne 8, 3) := by decide +kernel
theorem dX11_key_26 : decode cX11_key 26 = .ok (.bipush 33, 2) := by decide +kernel
theorem dX11_key_28 : decode cX11_key 28 = .ok (.goto 15, 3) := by decide +kernel
theorem dX11_key_31 : decode cX11_key 31 = .ok (.iload_n 2, 1) := by decide +kernel
theorem dX11_key_32 : decode cX11_key 32 = .ok (.iconst 1, 1) := by decide +kernel
theorem dX11_key_33 : decode cX11_key 33 = .ok (.if_icmp .ne 8, 3) := by decide +kernel
theorem dX11_key_36 : decode cX11_key 36 = .ok (.bipush 65, 2) := by decide +kernel
theorem dX11_key_38 : decode cX11_key 38 = .ok (.goto 5, 3) := by decide +kernel
theorem dX11_key_41 : decode cX11_key 41 = .ok (.bipush 20, 2) := by decide +kernel
theorem dX11_key_43 : decode cX11_key 43 = .ok (.istore_n 3, 1) := by decide +kernel
theorem dX11_key_44 : decode cX11_key 44 = .ok (.aload_n 0, 1) := by decide +kernel
theorem dX11_key_45 : decode cX11_key 45 = .ok (.getfield 14, 3) := by decide +kernel
theorem dX11_key_48 : decode cX11_key 48 = .ok (.getfield 93, 3) := by decide +kernel
theorem dX11_key_51 : decode cX11_key 51 = .ok (.iload_n 3, 1) := by decide +kernel
theorem dX11_key_52 : decode cX11_key 52 = .ok (.iadd, 1) := by decide +kernel
theorem dX11_key_53 : decode cX11_key 53 = .ok (.sipush 1600, 3) := by decide +kernel
theorem dX11_key_56 : decode cX11_key 56 = .ok (.if_icmp .le 11, 3) := by decide +kernel
theorem dX11_key_59 : decode cX11_key 59 = .ok (.new 96, 3) := by decide +kernel
theorem dX11_key_62 : decode cX11_key 62 = .ok (.dup, 1) := by decide +kernel
theorem dX11_key_63 : decode cX11_key 63 = .ok (.invokespecial 98, 3) := by decide +kernel
theorem dX11_key_66 : decode cX11_key 66 = .ok (.athrow, 1) := by decide +kernel
theorem dX11_key_67 : decode cX11_key 67 = .ok (.aload_n 0, 1) := by decide +kernel
theorem dX11_key_68 : decode cX11_key 68 = .ok (.getfield 21, 3) := by decide +kernel
theorem dX11_key_71 : decode cX11_key 71 = .ok (.invokevirtual 108, 3) := by decide +kernel
theorem dX11_key_74 : decode cX11_key 74 = .ok (.aload_n 0, 1) := by decide +kernel
theorem dX11_key_75 : decode cX11_key 75 = .ok (.getfield 34, 3) := by decide +kernel
theorem dX11_key_78 : decode cX11_key 78 = .ok (.iload_n 1, 1) := by decide +kernel
theorem dX11_key_79 : decode cX11_key 79 = .ok (.iload_n 2, 1) := by decide +kernel
theorem dX11_key_80 : decode cX11_key 80 = .ok (.iconst 1, 1) := by decide +kernel
theorem dX11_key_81 : decode cX11_key 81 = .ok (.if_icmp .ne 7, 3) := by decide +kernel
theorem dX11_key_84 : decode cX11_key 84 = .ok (.iconst 1, 1) := by decide +kernel
theorem dX11_key_85 : decode cX11_key 85 = .ok (.goto 4, 3) := by decide +kernel
theorem dX11_key_88 : decode cX11_key 88 = .ok (.iconst 0, 1) := by decide +kernel
theorem dX11_key_89 : decode cX11_key 89 = .ok (.aload_n 0, 1) := by decide +kernel
theorem dX11_key_90 : decode cX11_key 90 = .ok (.getfield 21, 3) := by decide +kernel
theorem dX11_key_93 : decode cX11_key 93 = .ok (.invokevirtual 111, 3) := by decide +kernel
theorem dX11_key_96 : decode cX11_key 96 = .ok (.iload_n 2, 1) := by decide +kernel
theorem dX11_key_97 : decode cX11_key 97 = .ok (.iconst 2, 1) := by decide +kernel
theorem dX11_key_98 : decode cX11_key 98 = .ok (.if_icmp .ne 33, 3) := by decide +kernel
theorem dX11_key_101 : decode cX11_key 101 = .ok (.aload_n 0, 1) := by decide +kernel
theorem dX11_key_102 : decode cX11_key 102 = .ok (.getfield 27, 3) := by decide +kernel
theorem dX11_key_105 : decode cX11_key 105 = .ok (.aload_n 0, 1) := by decide +kernel
theorem dX11_key_106 : decode cX11_key 106 = .ok (.getfield 21, 3) := by decide +kernel
theorem dX11_key_109 : decode cX11_key 109 = .ok (.getfield 105, 3) := by decide +kernel
theorem dX11_key_112 : decode cX11_key 112 = .ok (.iconst 0, 1) := by decide +kernel
theorem dX11_key_113 : decode cX11_key 113 = .ok (.aload_n 0, 1) := by decide +kernel
theorem dX11_key_114 : decode cX11_key 114 = .ok (.getfield 21, 3) := by decide +kernel
theorem dX11_key_117 : decode cX11_key 117 = .ok (.getfield 93, 3) := by decide +kernel
theorem dX11_key_120 : decode cX11_key 120 = .ok (.aload_n 0, 1) := by decide +kernel
theorem dX11_key_121 : decode cX11_key 121 = .ok (.getfield 21, 3) := by decide +kernel
theorem dX11_key_124 : decode cX11_key 124 = .ok (.getfield 105, 3) := by decide +kernel
theorem dX11_key_127 : decode cX11_key 127 = .ok (.iconst 0, 1) := by decide +kernel
theorem dX11_key_128 : decode cX11_key 128 = .ok (.invokevirtual 115, 3) := by decide +kernel
theorem dX11_key_131 : decode cX11_key 131 = .ok (.aload_n 0, 1) := by decide +kernel
theorem dX11_key_132 : decode cX11_key 132 = .ok (.getfield 14, 3) := by decide +kernel
theorem dX11_key_135 : decode cX11_key 135 = .ok (.aload_n 0, 1) := by decide +kernel
theorem dX11_key_136 : decode cX11_key 136 = .ok (.getfield 21, 3) := by decide +kernel
theorem dX11_key_139 : decode cX11_key 139 = .ok (.getfield 105, 3) := by decide +kernel
theorem dX11_key_142 : decode cX11_key 142 = .ok (.iconst 0, 1) := by decide +kernel
theorem dX11_key_143 : decode cX11_key 143 = .ok (.iload_n 3, 1) := by decide +kernel
theorem dX11_key_144 : decode cX11_key 144 = .ok (.invokevirtual 119, 3) := by decide +kernel
theorem dX11_key_147 : decode cX11_key 147 = .ok (.aload_n 0, 1) := by decide +kernel
theorem dX11_key_148 : decode cX11_key 148 = .ok (.getfield 14, 3) := by decide +kernel
theorem dX11_key_151 : decode cX11_key 151 = .ok (.getfield 93, 3) := by decide +kernel
theorem dX11_key_154 : decode cX11_key 154 = .ok (.ireturn, 1) := by decide +kernel
abbrev mX11_digest : ks_M := (RX11, cX11_digest, 3, (some .int), "digest")
theorem dX11_digest_0 : decode cX11_digest 0 = .ok (.iload_n 1, 1) := by decide +kernel
theorem dX11_digest_1 : decode cX11_digest 1 = .ok (.ifCond .lt 8, 3) := by decide +kernel
theorem dX11_digest_4 : decode cX11_digest 4 = .ok (.iload_n 1, 1) := by decide +kernel
theorem dX11_digest_5 : decode cX11_digest 5 = .ok (.iconst 3, 1) := by decide +kernel
theorem dX11_digest_6 : decode cX11_digest 6 = .ok (.if_icmp .le 11, 3) := by decide +kernel
theorem dX11_digest_9 : decode cX11_digest 9 = .ok (.new 102, 3) := by decide +kernel
theorem dX11_digest_12 : decode cX11_digest 12 = .ok (.dup, 1) := by decide +kernel
theorem dX11_digest_13 : decode cX11_digest 13 = .ok (.invokespecial 104, 3) := by decide +kernel
theorem dX11_digest_16 : decode cX11_digest 16 = .ok (.athrow, 1) := by decide +kernel
theorem dX11_digest_17 : decode cX11_digest 17 = .ok (.aload_n 0, 1) := by decide +kernel
theorem dX11_digest_18 : decode cX11_digest 18 = .ok (.getfield 14, 3) := by decide +kernel
theorem dX11_digest_21 : decode cX11_digest 21 = .ok (.getfield 105, 3) := by decide +kernel
theorem dX11_digest_24 : decode cX11_digest 24 = .ok (.astore_n 2, 1) := by decide +kernel
theorem dX11_digest_25 : decode cX11_digest 25 = .ok (.iload_n 1, 1) := by decide +kernel
theorem dX11_digest_26 : decode cX11_digest 26 = .ok (.ifCond .ne 24, 3) := by decide +kernel
theorem dX11_digest_29 : decode cX11_digest 29 = .ok (.aload_n 0, 1) := by decide +kernel
theorem dX11_digest_30 : decode cX11_digest 30 = .ok (.getfield 27, 3) := by decide +kernel
theorem dX11_digest_33 : decode cX11_digest 33 = .ok (.aload_n 2, 1) := by decide +kernel
theorem dX11_digest_34 : decode cX11_digest 34 = .ok (.iconst 0, 1) := by decide +kernel
theorem dX11_digest_35 : decode cX11_digest 35 = .ok (.aload_n 0, 1) := by decide +kernel
theorem dX11_digest_36 : decode cX11_digest 36 = .ok (.getfield 14, 3) := by decide +kernel
theorem dX11_digest_39 : decode cX11_digest 39 = .ok (.getfield 93, 3) := by decide +kernel
theorem dX11_digest_42 : decode cX11_digest 42 = .ok (.aload_n 2, 1) := by decide +kernel
theorem dX11_digest_43 : decode cX11_digest 43 = .ok (.iconst 0, 1) := by decide +kernel
theorem dX11_digest_44 : decode cX11_digest 44 = .ok (.invokevirtual 123, 3) := by decide +kernel
theorem dX11_digest_47 : decode cX11_digest 47 = .ok (.goto 73, 3) := by decide +kernel
theorem dX11_digest_50 : decode cX11_digest 50 = .ok (.iload_n 1, 1) := by decide +kernel
theorem dX11_digest_51 : decode cX11_digest 51 = .ok (.iconst 1, 1) := by decide +kernel
theorem dX11_digest_52 : decode cX11_digest 52 = .ok (.if_icmp .ne 24, 3) := by decide +kernel
theorem dX11_digest_55 : decode cX11_digest 55 = .ok (.aload_n 0, 1) := by decide +kernel
theorem dX11_digest_56 : decode cX11_digest 56 = .ok (.getfield 27, 3) := by decide +kernel
theorem dX11_digest_59 : decode cX11_digest 59 = .ok (.aload_n 2, 1) := by decide +kernel
theorem dX11_digest_60 : decode cX11_digest 60 = .ok (.iconst 0, 1) := by decide +kernel
theorem dX11_digest_61 : decode cX11_digest 61 = .ok (.aload_n 0, 1) := by decide +kernel
theorem dX11_digest_62 : decode cX11_digest 62 = .ok (.getfield 14, 3) := by decide +kernel
theorem dX11_digest_65 : decode cX11_digest 65 = .ok (.getfield 93, 3) := by decide +kernel
theorem dX11_digest_68 : decode cX11_digest 68 = .ok (.aload_n 2, 1) := by decide +kernel
theorem dX11_digest_69 : decode cX11_digest 69 = .ok (.iconst 0, 1) := by decide +kernel
theorem dX11_digest_70 : decode cX11_digest 70 = .ok (.invokevirtual 126, 3) := by decide +kernel
theorem dX11_digest_73 : decode cX11_digest 73 = .ok (.goto 47, 3) := by decide +kernel
theorem dX11_digest_76 : decode cX11_digest 76 = .ok (.iload_n 1, 1) := by decide +kernel
theorem dX11_digest_77 : decode cX11_digest 77 = .ok (.iconst 2, 1) := by decide +kernel
theorem dX11_digest_78 : decode cX11_digest 78 = .ok (.if_icmp .ne 24, 3) := by decide +kernel
theorem dX11_digest_81 : decode cX11_digest 81 = .ok (.aload_n 0, 1) := by decide +kernel
theorem dX11_digest_82 : decode cX11_digest 82 = .ok (.getfield 27, 3) := by decide +kernel
theorem dX11_digest_85 : decode cX11_digest 85 = .ok (.aload_n 2, 1) := by decide +kernel
theorem dX11_digest_86 : decode cX11_digest 86 = .ok (.iconst 0, 1) := by decide +kernel
theorem dX11_digest_87 : decode cX11_digest 87 = .ok (.aload_n 0, 1) := by decide +kernel
theorem dX11_digest_88 : decode cX11_digest 88 = .ok (.getfield 14, 3) := by decide +kernel
theorem dX11_digest_91 : decode cX11_digest 91 = .ok (.getfield 93, 3) := by decide +kernel
theorem dX11_digest_94 : decode cX11_digest 94 = .ok (.aload_n 2, 1) := by decide +kernel
theorem dX11_digest_95 : decode cX11_digest 95 = .ok (.iconst 0, 1) := by decide +kernel
theorem dX11_digest_96 : decode cX11_digest 96 = .ok (.invokevirtual 115, 3) := by decide +kernel
theorem dX11_digest_99 : decode cX11_digest 99 = .ok (.goto 21, 3) := by decide +kernel
theorem dX11_digest_102 : decode cX11_digest 102 = .ok (.aload_n 0, 1) := by decide +kernel
theorem dX11_digest_103 : decode cX11_digest 103 = .ok (.getfield 27, 3) := by decide +kernel
theorem dX11_digest_106 : decode cX11_digest 106 = .ok (.aload_n 2, 1) := by decide +kernel
theorem dX11_digest_107 : decode cX11_digest 107 = .ok (.iconst 0, 1) := by decide +kernel
theorem dX11_digest_108 : decode cX11_digest 108 = .ok (.aload_n 0, 1) := by decide +kernel
theorem dX11_digest_109 : decode cX11_digest 109 = .ok (.getfield 14, 3) := by decide +kernel
theorem dX11_digest_112 : decode cX11_digest 112 = .ok (.getfield 93, 3) := by decide +kernel
theorem dX11_digest_115 : decode cX11_digest 115 = .ok (.aload_n 2, 1) := by decide +kernel
theorem dX11_digest_116 : decode cX11_digest 116 = .ok (.iconst 0, 1) := by decide +kernel
theorem dX11_digest_117 : decode cX11_digest 117 = .ok (.invokevirtual 129, 3) := by decide +kernel
theorem dX11_digest_120 : decode cX11_digest 120 = .ok (.aload_n 0, 1) := by decide +kernel
theorem dX11_digest_121 : decode cX11_digest 121 = .ok (.getfield 14, 3) := by decide +kernel
theorem dX11_digest_124 : decode cX11_digest 124 = .ok (.iload_n 1, 1) := by decide +kernel
theorem dX11_digest_125 : decode cX11_digest 125 = .ok (.ifCond .eq 8, 3) := by decide +kernel
theorem dX11_digest_128 : decode cX11_digest 128 = .ok (.iload_n 1, 1) := by decide +kernel
theorem dX11_digest_129 : decode cX11_digest 129 = .ok (.iconst 3, 1) := by decide +kernel
theorem dX11_digest_130 : decode cX11_digest 130 = .ok (.if_icmp .ne 8, 3) := by decide +kernel
theorem dX11_digest_133 : decode cX11_digest 133 = .ok (.bipush 32, 2) := by decide +kernel
theorem dX11_digest_135 : decode cX11_digest 135 = .ok (.goto 5, 3) := by decide +kernel
theorem dX11_digest_138 : decode cX11_digest 138 = .ok (.bipush 20, 2) := by decide +kernel
theorem dX11_digest_140 : decode cX11_digest 140 = .ok (.putfield 93, 3) := by decide +kernel
theorem dX11_digest_143 : decode cX11_digest 143 = .ok (.aload_n 0, 1) := by decide +kernel
theorem dX11_digest_144 : decode cX11_digest 144 = .ok (.getfield 14, 3) := by decide +kernel
theorem dX11_digest_147 : decode cX11_digest 147 = .ok (.getfield 93, 3) := by decide +kernel
theorem dX11_digest_150 : decode cX11_digest 150 = .ok (.ireturn, 1) := by decide +kernel
abbrev mX11_open : ks_M := (RX11, cX11_open, 4, none, "open")
theorem dX11_open_0 : decode cX11_open 0 = .ok (.iload_n 1, 1) := by decide +kernel
theorem dX11_open_1 : decode cX11_open 1 = .ok (.iconst (-1), 1) := by decide +kernel
theorem dX11_open_2 : decode cX11_open 2 = .ok (.if_icmp .lt 21, 3) := by decide +kernel
theorem dX11_open_5 : decode cX11_open 5 = .ok (.iload_n 1, 1) := by decide +kernel
theorem dX11_open_6 : decode cX11_open 6 = .ok (.aload_n 0, 1) := by decide +kernel
theorem dX11_open_7 : decode cX11_open 7 = .ok (.getfield 59, 3) := by decide +kernel
theorem dX11_open_10 : decode cX11_open 10 = .ok (.getfield 132, 3) := by decide +kernel
theorem dX11_open_13 : decode cX11_open 13 = .ok (.if_icmp .ge 10, 3) := by decide +kernel
theorem dX11_open_16 : decode cX11_open 16 = .ok (.lload_n 2, 1) := by decide +kernel
theorem dX11_open_17 : decode cX11_open 17 = .ok (.invokestatic 135, 3) := by decide +kernel
theorem dX11_open_20 : decode cX11_open 20 = .ok (.ifCond .eq 11, 3) := by decide +kernel
theorem dX11_open_23 : decode cX11_open 23 = .ok (.new 102, 3) := by decide +kernel
theorem dX11_open_26 : decode cX11_open 26 = .ok (.dup, 1) := by decide +kernel
theorem dX11_open_27 : decode cX11_open 27 = .ok (.invokespecial 104, 3) := by decide +kernel
theorem dX11_open_30 : decode cX11_open 30 = .ok (.athrow, 1) := by decide +kernel
theorem dX11_open_31 : decode cX11_open 31 = .ok (.aload_n 0, 1) := by decide +kernel
theorem dX11_open_32 : decode cX11_open 32 = .ok (.iload_n 1, 1) := by decide +kernel
theorem dX11_open_33 : decode cX11_open 33 = .ok (.ifCond .ge 13, 3) := by decide +kernel
theorem dX11_open_36 : decode cX11_open 36 = .ok (.aload_n 0, 1) := by decide +kernel
theorem dX11_open_37 : decode cX11_open 37 = .ok (.getfield 59, 3) := by decide +kernel
theorem dX11_open_40 : decode cX11_open 40 = .ok (.getfield 139, 3) := by decide +kernel
theorem dX11_open_43 : decode cX11_open 43 = .ok (.goto 4, 3) := by decide +kernel
theorem dX11_open_46 : decode cX11_open 46 = .ok (.iload_n 1, 1) := by decide +kernel
theorem dX11_open_47 : decode cX11_open 47 = .ok (.putfield 142, 3) := by decide +kernel
theorem dX11_open_50 : decode cX11_open 50 = .ok (.aload_n 0, 1) := by decide +kernel
theorem dX11_open_51 : decode cX11_open 51 = .ok (.lload_n 2, 1) := by decide +kernel
theorem dX11_open_52 : decode cX11_open 52 = .ok (.putfield 89, 3) := by decide +kernel
theorem dX11_open_55 : decode cX11_open 55 = .ok (.aload_n 0, 1) := by decide +kernel
theorem dX11_open_56 : decode cX11_open 56 = .ok (.iconst 0, 1) := by decide +kernel
theorem dX11_open_57 : decode cX11_open 57 = .ok (.putfield 83, 3) := by decide +kernel
theorem dX11_open_60 : decode cX11_open 60 = .ok (.return_, 1) := by decide +kernel
abbrev mX11_tx : ks_M := (RX11, cX11_tx, 5, (some .int), "tx")
theorem dX11_tx_0 : decode cX11_tx 0 = .ok (.lload_n 1, 1) := by decide +kernel
theorem dX11_tx_1 : decode cX11_tx 1 = .ok (.invokestatic 135, 3) := by decide +kernel
theorem dX11_tx_4 : decode cX11_tx 4 = .ok (.ifCond .ne 10, 3) := by decide +kernel
theorem dX11_tx_7 : decode cX11_tx 7 = .ok (.lload_n 3, 1) := by decide +kernel
theorem dX11_tx_8 : decode cX11_tx 8 = .ok (.invokestatic 135, 3) := by decide +kernel
theorem dX11_tx_11 : decode cX11_tx 11 = .ok (.ifCond .eq 11, 3) := by decide +kernel
theorem dX11_tx_14 : decode cX11_tx 14 = .ok (.new 102, 3) := by decide +kernel
theorem dX11_tx_17 : decode cX11_tx 17 = .ok (.dup, 1) := by decide +kernel
theorem dX11_tx_18 : decode cX11_tx 18 = .ok (.invokespecial 104, 3) := by decide +kernel
theorem dX11_tx_21 : decode cX11_tx 21 = .ok (.athrow, 1) := by decide +kernel
theorem dX11_tx_22 : decode cX11_tx 22 = .ok (.aload_n 0, 1) := by decide +kernel
theorem dX11_tx_23 : decode cX11_tx 23 = .ok (.getfield 83, 3) := by decide +kernel
theorem dX11_tx_26 : decode cX11_tx 26 = .ok (.bipush 12, 2) := by decide +kernel
theorem dX11_tx_28 : decode cX11_tx 28 = .ok (.if_icmp .ne 11, 3) := by decide +kernel
theorem dX11_tx_31 : decode cX11_tx 31 = .ok (.new 96, 3) := by decide +kernel
theorem dX11_tx_34 : decode cX11_tx 34 = .ok (.dup, 1) := by decide +kernel
theorem dX11_tx_35 : decode cX11_tx 35 = .ok (.invokespecial 98, 3) := by decide +kernel
theorem dX11_tx_38 : decode cX11_tx 38 = .ok (.athrow, 1) := by decide +kernel
theorem dX11_tx_39 : decode cX11_tx 39 = .ok (.aload_n 0, 1) := by decide +kernel
theorem dX11_tx_40 : decode cX11_tx 40 = .ok (.getfield 65, 3) := by decide +kernel
theorem dX11_tx_43 : decode cX11_tx 43 = .ok (.aload_n 0, 1) := by decide +kernel
theorem dX11_tx_44 : decode cX11_tx 44 = .ok (.getfield 83, 3) := by decide +kernel
theorem dX11_tx_47 : decode cX11_tx 47 = .ok (.aaload, 1) := by decide +kernel
theorem dX11_tx_48 : decode cX11_tx 48 = .ok (.lload_n 1, 1) := by decide +kernel
theorem dX11_tx_49 : decode cX11_tx 49 = .ok (.lload_n 3, 1) := by decide +kernel
theorem dX11_tx_50 : decode cX11_tx 50 = .ok (.invokevirtual 145, 3) := by decide +kernel
theorem dX11_tx_53 : decode cX11_tx 53 = .ok (.aload_n 0, 1) := by decide +kernel
theorem dX11_tx_54 : decode cX11_tx 54 = .ok (.dup, 1) := by decide +kernel
theorem dX11_tx_55 : decode cX11_tx 55 = .ok (.getfield 83, 3) := by decide +kernel
theorem dX11_tx_58 : decode cX11_tx 58 = .ok (.iconst 1, 1) := by decide +kernel
theorem dX11_tx_59 : decode cX11_tx 59 = .ok (.iadd, 1) := by decide +kernel
theorem dX11_tx_60 : decode cX11_tx 60 = .ok (.putfield 83, 3) := by decide +kernel
theorem dX11_tx_63 : decode cX11_tx 63 = .ok (.aload_n 0, 1) := by decide +kernel
theorem dX11_tx_64 : decode cX11_tx 64 = .ok (.getfield 83, 3) := by decide +kernel
theorem dX11_tx_67 : decode cX11_tx 67 = .ok (.ireturn, 1) := by decide +kernel
abbrev mX11_input : ks_M := (RX11, cX11_input, 7, (some .int), "input")
theorem dX11_input_0 : decode cX11_input 0 = .ok (.lload 4, 2) := by decide +kernel
theorem dX11_input_2 : decode cX11_input 2 = .ok (.invokestatic 135, 3) := by decide +kernel
theorem dX11_input_5 : decode cX11_input 5 = .ok (.ifCond .ne 23, 3) := by decide +kernel
theorem dX11_input_8 : decode cX11_input 8 = .ok (.iload_n 1, 1) := by decide +kernel
theorem dX11_input_9 : decode cX11_input 9 = .ok (.bipush (-2), 2) := by decide +kernel
theorem dX11_input_11 : decode cX11_input 11 = .ok (.if_icmp .lt 17, 3) := by decide +kernel
theorem dX11_input_14 : decode cX11_input 14 = .ok (.iload_n 1, 1) := by decide +kernel
theorem dX11_input_15 : decode cX11_input 15 = .ok (.iconst (-1), 1) := by decide +kernel
theorem dX11_input_16 : decode cX11_input 16 = .ok (.if_icmp .eq 20, 3) := by decide +kernel
theorem dX11_input_19 : decode cX11_input 19 = .ok (.aload_n 0, 1) := by decide +kernel
theorem dX11_input_20 : decode cX11_input 20 = .ok (.iload_n 1, 1) := by decide +kernel
theorem dX11_input_21 : decode cX11_input 21 = .ok (.iload_n 2, 1) := by decide +kernel
theorem dX11_input_22 : decode cX11_input 22 = .ok (.invokevirtual 149, 3) := by decide +kernel
theorem dX11_input_25 : decode cX11_input 25 = .ok (.ifCond .ne 11, 3) := by decide +kernel
theorem dX11_input_28 : decode cX11_input 28 = .ok (.new 102, 3) := by decide +kernel
theorem dX11_input_31 : decode cX11_input 31 = .ok (.dup, 1) := by decide +kernel
theorem dX11_input_32 : decode cX11_input 32 = .ok (.invokespecial 104, 3) := by decide +kernel
theorem dX11_input_35 : decode cX11_input 35 = .ok (.athrow, 1) := by decide +kernel
theorem dX11_input_36 : decode cX11_input 36 = .ok (.aload_n 0, 1) := by decide +kernel
theorem dX11_input_37 : decode cX11_input 37 = .ok (.getfield 83, 3) := by decide +kernel
theorem dX11_input_40 : decode cX11_input 40 = .ok (.ifCond .ne 11, 3) := by decide +kernel
theorem dX11_input_43 : decode cX11_input 43 = .ok (.new 153, 3) := by decide +kernel
theorem dX11_input_46 : decode cX11_input 46 = .ok (.dup, 1) := by decide +kernel
theorem dX11_input_47 : decode cX11_input 47 = .ok (.invokespecial 155, 3) := by decide +kernel
theorem dX11_input_50 : decode cX11_input 50 = .ok (.athrow, 1) := by decide +kernel
theorem dX11_input_51 : decode cX11_input 51 = .ok (.aload_n 0, 1) := by decide +kernel
theorem dX11_input_52 : decode cX11_input 52 = .ok (.getfield 65, 3) := by decide +kernel
theorem dX11_input_55 : decode cX11_input 55 = .ok (.aload_n 0, 1) := by decide +kernel
theorem dX11_input_56 : decode cX11_input 56 = .ok (.getfield 83, 3) := by decide +kernel
theorem dX11_input_59 : decode cX11_input 59 = .ok (.iconst 1, 1) := by decide +kernel
theorem dX11_input_60 : decode cX11_input 60 = .ok (.isub, 1) := by decide +kernel
theorem dX11_input_61 : decode cX11_input 61 = .ok (.aaload, 1) := by decide +kernel
theorem dX11_input_62 : decode cX11_input 62 = .ok (.astore 6, 2) := by decide +kernel
theorem dX11_input_64 : decode cX11_input 64 = .ok (.aload 6, 2) := by decide +kernel
theorem dX11_input_66 : decode cX11_input 66 = .ok (.getfield 156, 3) := by decide +kernel
theorem dX11_input_69 : decode cX11_input 69 = .ok (.bipush 6, 2) := by decide +kernel
theorem dX11_input_71 : decode cX11_input 71 = .ok (.if_icmp .eq 16, 3) := by decide +kernel
theorem dX11_input_74 : decode cX11_input 74 = .ok (.aload_n 0, 1) := by decide +kernel
theorem dX11_input_75 : decode cX11_input 75 = .ok (.getfield 14, 3) := by decide +kernel
theorem dX11_input_78 : decode cX11_input 78 = .ok (.getfield 93, 3) := by decide +kernel
theorem dX11_input_81 : decode cX11_input 81 = .ok (.sipush 600, 3) := by decide +kernel
theorem dX11_input_84 : decode cX11_input 84 = .ok (.if_icmp .le 11, 3) := by decide +kernel
theorem dX11_input_87 : decode cX11_input 87 = .ok (.new 96, 3) := by decide +kernel
theorem dX11_input_90 : decode cX11_input 90 = .ok (.dup, 1) := by decide +kernel
theorem dX11_input_91 : decode cX11_input 91 = .ok (.invokespecial 98, 3) := by decide +kernel
theorem dX11_input_94 : decode cX11_input 94 = .ok (.athrow, 1) := by decide +kernel
theorem dX11_input_95 : decode cX11_input 95 = .ok (.iload_n 1, 1) := by decide +kernel
theorem dX11_input_96 : decode cX11_input 96 = .ok (.iconst (-1), 1) := by decide +kernel
theorem dX11_input_97 : decode cX11_input 97 = .ok (.if_icmp .ne 23, 3) := by decide +kernel
theorem dX11_input_100 : decode cX11_input 100 = .ok (.aload 6, 2) := by decide +kernel
theorem dX11_input_102 : decode cX11_input 102 = .ok (.aload_n 0, 1) := by decide +kernel
theorem dX11_input_103 : decode cX11_input 103 = .ok (.getfield 76, 3) := by decide +kernel
theorem dX11_input_106 : decode cX11_input 106 = .ok (.iconst 0, 1) := by decide +kernel
theorem dX11_input_107 : decode cX11_input 107 = .ok (.iconst (-1), 1) := by decide +kernel
theorem dX11_input_108 : decode cX11_input 108 = .ok (.lload 4, 2) := by decide +kernel
theorem dX11_input_110 : decode cX11_input 110 = .ok (.aload_n 0, 1) := by decide +kernel
theorem dX11_input_111 : decode cX11_input 111 = .ok (.getfield 14, 3) := by decide +kernel
theorem dX11_input_114 : decode cX11_input 114 = .ok (.invokevirtual 159, 3) := by decide +kernel
theorem dX11_input_117 : decode cX11_input 117 = .ok (.goto 67, 3) := by decide +kernel
theorem dX11_input_120 : decode cX11_input 120 = .ok (.iload_n 1, 1) := by decide +kernel
theorem dX11_input_121 : decode cX11_input 121 = .ok (.bipush (-2), 2) := by decide +kernel
theorem dX11_input_123 : decode cX11_input 123 = .ok (.if_icmp .ne 33, 3) := by decide +kernel
theorem dX11_input_126 : decode cX11_input 126 = .ok (.aload_n 0, 1) := by decide +kernel
theorem dX11_input_127 : decode cX11_input 127 = .ok (.iload_n 2, 1) := by decide +kernel
theorem dX11_input_128 : decode cX11_input 128 = .ok (.aload_n 0, 1) := by decide +kernel
theorem dX11_input_129 : decode cX11_input 129 = .ok (.getfield 73, 3) := by decide +kernel
theorem dX11_input_132 : decode cX11_input 132 = .ok (.iconst 0, 1) := by decide +kernel
theorem dX11_input_133 : decode cX11_input 133 = .ok (.invokevirtual 163, 3) := by decide +kernel
theorem dX11_input_136 : decode cX11_input 136 = .ok (.aload 6, 2) := by decide +kernel
theorem dX11_input_138 : decode cX11_input 138 = .ok (.aload_n 0, 1) := by decide +kernel
theorem dX11_input_139 : decode cX11_input 139 = .ok (.getfield 73, 3) := by decide +kernel
theorem dX11_input_142 : decode cX11_input 142 = .ok (.iconst 0, 1) := by decide +kernel
theorem dX11_input_143 : decode cX11_input 143 = .ok (.iload_n 3, 1) := by decide +kernel
theorem dX11_input_144 : decode cX11_input 144 = .ok (.lload 4, 2) := by decide +kernel
theorem dX11_input_146 : decode cX11_input 146 = .ok (.aload_n 0, 1) := by decide +kernel
theorem dX11_input_147 : decode cX11_input 147 = .ok (.getfield 14, 3) := by decide +kernel
theorem dX11_input_150 : decode cX11_input 150 = .ok (.invokevirtual 159, 3) := by decide +kernel
theorem dX11_input_153 : decode cX11_input 153 = .ok (.goto 31, 3) := by decide +kernel
theorem dX11_input_156 : decode cX11_input 156 = .ok (.aload 6, 2) := by decide +kernel
theorem dX11_input_158 : decode cX11_input 158 = .ok (.aload_n 0, 1) := by decide +kernel
theorem dX11_input_159 : decode cX11_input 159 = .ok (.getfield 59, 3) := by decide +kernel
theorem dX11_input_162 : decode cX11_input 162 = .ok (.getfield 167, 3) := by decide +kernel
theorem dX11_input_165 : decode cX11_input 165 = .ok (.iload_n 1, 1) := by decide +kernel
theorem dX11_input_166 : decode cX11_input 166 = .ok (.aaload, 1) := by decide +kernel
theorem dX11_input_167 : decode cX11_input 167 = .ok (.getfield 171, 3) := by decide +kernel
theorem dX11_input_170 : decode cX11_input 170 = .ok (.bipush 32, 2) := by decide +kernel
theorem dX11_input_172 : decode cX11_input 172 = .ok (.iload_n 2, 1) := by decide +kernel
theorem dX11_input_173 : decode cX11_input 173 = .ok (.imul, 1) := by decide +kernel
theorem dX11_input_174 : decode cX11_input 174 = .ok (.iload_n 3, 1) := by decide +kernel
theorem dX11_input_175 : decode cX11_input 175 = .ok (.lload 4, 2) := by decide +kernel
theorem dX11_input_177 : decode cX11_input 177 = .ok (.aload_n 0, 1) := by decide +kernel
theorem dX11_input_178 : decode cX11_input 178 = .ok (.getfield 14, 3) := by decide +kernel
theorem dX11_input_181 : decode cX11_input 181 = .ok (.invokevirtual 159, 3) := by decide +kernel
theorem dX11_input_184 : decode cX11_input 184 = .ok (.aload_n 0, 1) := by decide +kernel
theorem dX11_input_185 : decode cX11_input 185 = .ok (.getfield 14, 3) := by decide +kernel
theorem dX11_input_188 : decode cX11_input 188 = .ok (.invokevirtual 108, 3) := by decide +kernel
theorem dX11_input_191 : decode cX11_input 191 = .ok (.aload 6, 2) := by decide +kernel
theorem dX11_input_193 : decode cX11_input 193 = .ok (.getfield 156, 3) := by decide +kernel
theorem dX11_input_196 : decode cX11_input 196 = .ok (.ireturn, 1) := by decide +kernel
abbrev mX11_output : ks_M := (RX11, cX11_output, 4, (some .int), "output")
theorem dX11_output_0 : decode cX11_output 0 = .ok (.aload_n 0, 1) := by decide +kernel
theorem dX11_output_1 : decode cX11_output 1 = .ok (.getfield 83, 3) := by decide +kernel
theorem dX11_output_4 : decode cX11_output 4 = .ok (.ifCond .ne 11, 3) := by decide +kernel
theorem dX11_output_7 : decode cX11_output 7 = .ok (.new 153, 3) := by decide +kernel
theorem dX11_output_10 : decode cX11_output 10 = .ok (.dup, 1) := by decide +kernel
theorem dX11_output_11 : decode cX11_output 11 = .ok (.invokespecial 155, 3) := by decide +kernel
theorem dX11_output_14 : decode cX11_output 14 = .ok (.athrow, 1) := by decide +kernel
theorem dX11_output_15 : decode cX11_output 15 = .ok (.aload_n 0, 1) := by decide +kernel
theorem dX11_output_16 : decode cX11_output 16 = .ok (.getfield 65, 3) := by decide +kernel
theorem dX11_output_19 : decode cX11_output 19 = .ok (.aload_n 0, 1) := by decide +kernel
theorem dX11_output_20 : decode cX11_output 20 = .ok (.getfield 83, 3) := by decide +kernel
theorem dX11_output_23 : decode cX11_output 23 = .ok (.iconst 1, 1) := by decide +kernel
theorem dX11_output_24 : decode cX11_output 24 = .ok (.isub, 1) := by decide +kernel
theorem dX11_output_25 : decode cX11_output 25 = .ok (.aaload, 1) := by decide +kernel
theorem dX11_output_26 : decode cX11_output 26 = .ok (.astore_n 3, 1) := by decide +kernel
theorem dX11_output_27 : decode cX11_output 27 = .ok (.aload_n 3, 1) := by decide +kernel
theorem dX11_output_28 : decode cX11_output 28 = .ok (.getfield 174, 3) := by decide +kernel
theorem dX11_output_31 : decode cX11_output 31 = .ok (.bipush 6, 2) := by decide +kernel
theorem dX11_output_33 : decode cX11_output 33 = .ok (.if_icmp .eq 16, 3) := by decide +kernel
theorem dX11_output_36 : decode cX11_output 36 = .ok (.aload_n 0, 1) := by decide +kernel
theorem dX11_output_37 : decode cX11_output 37 = .ok (.getfield 14, 3) := by decide +kernel
theorem dX11_output_40 : decode cX11_output 40 = .ok (.getfield 93, 3) := by decide +kernel
theorem dX11_output_43 : decode cX11_output 43 = .ok (.sipush 600, 3) := by decide +kernel
theorem dX11_output_46 : decode cX11_output 46 = .ok (.if_icmp .le 11, 3) := by decide +kernel
theorem dX11_output_49 : decode cX11_output 49 = .ok (.new 96, 3) := by decide +kernel
theorem dX11_output_52 : decode cX11_output 52 = .ok (.dup, 1) := by decide +kernel
theorem dX11_output_53 : decode cX11_output 53 = .ok (.invokespecial 98, 3) := by decide +kernel
theorem dX11_output_56 : decode cX11_output 56 = .ok (.athrow, 1) := by decide +kernel
theorem dX11_output_57 : decode cX11_output 57 = .ok (.aload_n 3, 1) := by decide +kernel
theorem dX11_output_58 : decode cX11_output 58 = .ok (.lload_n 1, 1) := by decide +kernel
theorem dX11_output_59 : decode cX11_output 59 = .ok (.aload_n 0, 1) := by decide +kernel
theorem dX11_output_60 : decode cX11_output 60 = .ok (.getfield 14, 3) := by decide +kernel
theorem dX11_output_63 : decode cX11_output 63 = .ok (.invokevirtual 177, 3) := by decide +kernel
theorem dX11_output_66 : decode cX11_output 66 = .ok (.aload_n 0, 1) := by decide +kernel
theorem dX11_output_67 : decode cX11_output 67 = .ok (.getfield 14, 3) := by decide +kernel
theorem dX11_output_70 : decode cX11_output 70 = .ok (.invokevirtual 108, 3) := by decide +kernel
theorem dX11_output_73 : decode cX11_output 73 = .ok (.aload_n 3, 1) := by decide +kernel
theorem dX11_output_74 : decode cX11_output 74 = .ok (.getfield 174, 3) := by decide +kernel
theorem dX11_output_77 : decode cX11_output 77 = .ok (.ireturn, 1) := by decide +kernel
abbrev mX11_push : ks_M := (RX11, cX11_push, 3, (some .int), "push")
theorem dX11_push_0 : decode cX11_push 0 = .ok (.aload_n 0, 1) := by decide +kernel
theorem dX11_push_1 : decode cX11_push 1 = .ok (.getfield 83, 3) := by decide +kernel
theorem dX11_push_4 : decode cX11_push 4 = .ok (.ifCond .ne 11, 3) := by decide +kernel
theorem dX11_push_7 : decode cX11_push 7 = .ok (.new 153, 3) := by decide +kernel
theorem dX11_push_10 : decode cX11_push 10 = .ok (.dup, 1) := by decide +kernel
theorem dX11_push_11 : decode cX11_push 11 = .ok (.invokespecial 155, 3) := by decide +kernel
theorem dX11_push_14 : decode cX11_push 14 = .ok (.athrow, 1) := by decide +kernel
theorem dX11_push_15 : decode cX11_push 15 = .ok (.aload_n 0, 1) := by decide +kernel
theorem dX11_push_16 : decode cX11_push 16 = .ok (.getfield 65, 3) := by decide +kernel
theorem dX11_push_19 : decode cX11_push 19 = .ok (.aload_n 0, 1) := by decide +kernel
theorem dX11_push_20 : decode cX11_push 20 = .ok (.getfield 83, 3) := by decide +kernel
theorem dX11_push_23 : decode cX11_push 23 = .ok (.iconst 1, 1) := by decide +kernel
theorem dX11_push_24 : decode cX11_push 24 = .ok (.isub, 1) := by decide +kernel
theorem dX11_push_25 : decode cX11_push 25 = .ok (.aaload, 1) := by decide +kernel
theorem dX11_push_26 : decode cX11_push 26 = .ok (.astore_n 2, 1) := by decide +kernel
theorem dX11_push_27 : decode cX11_push 27 = .ok (.iload_n 1, 1) := by decide +kernel
theorem dX11_push_28 : decode cX11_push 28 = .ok (.ifCond .lt 11, 3) := by decide +kernel
theorem dX11_push_31 : decode cX11_push 31 = .ok (.iload_n 1, 1) := by decide +kernel
theorem dX11_push_32 : decode cX11_push 32 = .ok (.aload_n 2, 1) := by decide +kernel
theorem dX11_push_33 : decode cX11_push 33 = .ok (.getfield 156, 3) := by decide +kernel
theorem dX11_push_36 : decode cX11_push 36 = .ok (.if_icmp .lt 11, 3) := by decide +kernel
theorem dX11_push_39 : decode cX11_push 39 = .ok (.new 102, 3) := by decide +kernel
theorem dX11_push_42 : decode cX11_push 42 = .ok (.dup, 1) := by decide +kernel
theorem dX11_push_43 : decode cX11_push 43 = .ok (.invokespecial 104, 3) := by decide +kernel
theorem dX11_push_46 : decode cX11_push 46 = .ok (.athrow, 1) := by decide +kernel
theorem dX11_push_47 : decode cX11_push 47 = .ok (.aload_n 2, 1) := by decide +kernel
theorem dX11_push_48 : decode cX11_push 48 = .ok (.getfield 181, 3) := by decide +kernel
theorem dX11_push_51 : decode cX11_push 51 = .ok (.iload_n 1, 1) := by decide +kernel
theorem dX11_push_52 : decode cX11_push 52 = .ok (.iaload, 1) := by decide +kernel
theorem dX11_push_53 : decode cX11_push 53 = .ok (.aload_n 0, 1) := by decide +kernel
theorem dX11_push_54 : decode cX11_push 54 = .ok (.getfield 14, 3) := by decide +kernel
theorem dX11_push_57 : decode cX11_push 57 = .ok (.getfield 93, 3) := by decide +kernel
theorem dX11_push_60 : decode cX11_push 60 = .ok (.invokestatic 185, 3) := by decide +kernel
theorem dX11_push_63 : decode cX11_push 63 = .ok (.iadd, 1) := by decide +kernel
theorem dX11_push_64 : decode cX11_push 64 = .ok (.sipush 600, 3) := by decide +kernel
theorem dX11_push_67 : decode cX11_push 67 = .ok (.if_icmp .le 11, 3) := by decide +kernel
theorem dX11_push_70 : decode cX11_push 70 = .ok (.new 96, 3) := by decide +kernel
theorem dX11_push_73 : decode cX11_push 73 = .ok (.dup, 1) := by decide +kernel
theorem dX11_push_74 : decode cX11_push 74 = .ok (.invokespecial 98, 3) := by decide +kernel
theorem dX11_push_77 : decode cX11_push 77 = .ok (.athrow, 1) := by decide +kernel
theorem dX11_push_78 : decode cX11_push 78 = .ok (.aload_n 2, 1) := by decide +kernel
theorem dX11_push_79 : decode cX11_push 79 = .ok (.iload_n 1, 1) := by decide +kernel
theorem dX11_push_80 : decode cX11_push 80 = .ok (.aload_n 0, 1) := by decide +kernel
theorem dX11_push_81 : decode cX11_push 81 = .ok (.getfield 14, 3) := by decide +kernel
theorem dX11_push_84 : decode cX11_push 84 = .ok (.invokevirtual 189, 3) := by decide +kernel
theorem dX11_push_87 : decode cX11_push 87 = .ok (.aload_n 0, 1) := by decide +kernel
theorem dX11_push_88 : decode cX11_push 88 = .ok (.getfield 14, 3) := by decide +kernel
theorem dX11_push_91 : decode cX11_push 91 = .ok (.invokevirtual 108, 3) := by decide +kernel
theorem dX11_push_94 : decode cX11_push 94 = .ok (.aload_n 2, 1) := by decide +kernel
theorem dX11_push_95 : decode cX11_push 95 = .ok (.getfield 181, 3) := by decide +kernel
theorem dX11_push_98 : decode cX11_push 98 = .ok (.iload_n 1, 1) := by decide +kernel
theorem dX11_push_99 : decode cX11_push 99 = .ok (.iaload, 1) := by decide +kernel
theorem dX11_push_100 : decode cX11_push 100 = .ok (.ireturn, 1) := by decide +kernel
abbrev mX11_sign : ks_M := (RX11, cX11_sign, 5, (some .int), "sign")
theorem dX11_sign_0 : decode cX11_sign 0 = .ok (.aload_n 0, 1) := by decide +kernel
theorem dX11_sign_1 : decode cX11_sign 1 = .ok (.getfield 83, 3) := by decide +kernel
theorem dX11_sign_4 : decode cX11_sign 4 = .ok (.ifCond .ne 11, 3) := by decide +kernel
theorem dX11_sign_7 : decode cX11_sign 7 = .ok (.new 153, 3) := by decide +kernel
theorem dX11_sign_10 : decode cX11_sign 10 = .ok (.dup, 1) := by decide +kernel
theorem dX11_sign_11 : decode cX11_sign 11 = .ok (.invokespecial 155, 3) := by decide +kernel
theorem dX11_sign_14 : decode cX11_sign 14 = .ok (.athrow, 1) := by decide +kernel
theorem dX11_sign_15 : decode cX11_sign 15 = .ok (.aload_n 0, 1) := by decide +kernel
theorem dX11_sign_16 : decode cX11_sign 16 = .ok (.getfield 65, 3) := by decide +kernel
theorem dX11_sign_19 : decode cX11_sign 19 = .ok (.aload_n 0, 1) := by decide +kernel
theorem dX11_sign_20 : decode cX11_sign 20 = .ok (.getfield 83, 3) := by decide +kernel
theorem dX11_sign_23 : decode cX11_sign 23 = .ok (.iconst 1, 1) := by decide +kernel
theorem dX11_sign_24 : decode cX11_sign 24 = .ok (.isub, 1) := by decide +kernel
theorem dX11_sign_25 : decode cX11_sign 25 = .ok (.aaload, 1) := by decide +kernel
theorem dX11_sign_26 : decode cX11_sign 26 = .ok (.astore 4, 2) := by decide +kernel
theorem dX11_sign_28 : decode cX11_sign 28 = .ok (.iload_n 1, 1) := by decide +kernel
theorem dX11_sign_29 : decode cX11_sign 29 = .ok (.ifCond .lt 28, 3) := by decide +kernel
theorem dX11_sign_32 : decode cX11_sign 32 = .ok (.iload_n 1, 1) := by decide +kernel
theorem dX11_sign_33 : decode cX11_sign 33 = .ok (.aload 4, 2) := by decide +kernel
theorem dX11_sign_35 : decode cX11_sign 35 = .ok (.getfield 156, 3) := by decide +kernel
theorem dX11_sign_38 : decode cX11_sign 38 = .ok (.if_icmp .ge 19, 3) := by decide +kernel
theorem dX11_sign_41 : decode cX11_sign 41 = .ok (.iload_n 2, 1) := by decide +kernel
theorem dX11_sign_42 : decode cX11_sign 42 = .ok (.iconst 1, 1) := by decide +kernel
theorem dX11_sign_43 : decode cX11_sign 43 = .ok (.if_icmp .lt 14, 3) := by decide +kernel
theorem dX11_sign_46 : decode cX11_sign 46 = .ok (.iload_n 3, 1) := by decide +kernel
theorem dX11_sign_47 : decode cX11_sign 47 = .ok (.ifCond .lt 10, 3) := by decide +kernel
theorem dX11_sign_50 : decode cX11_sign 50 = .ok (.iload_n 3, 1) := by decide +kernel
theorem dX11_sign_51 : decode cX11_sign 51 = .ok (.sipush 255, 3) := by decide +kernel
theorem dX11_sign_54 : decode cX11_sign 54 = .ok (.if_icmp .le 11, 3) := by decide +kernel
theorem dX11_sign_57 : decode cX11_sign 57 = .ok (.new 102, 3) := by decide +kernel
theorem dX11_sign_60 : decode cX11_sign 60 = .ok (.dup, 1) := by decide +kernel
theorem dX11_sign_61 : decode cX11_sign 61 = .ok (.invokespecial 104, 3) := by decide +kernel
theorem dX11_sign_64 : decode cX11_sign 64 = .ok (.athrow, 1) := by decide +kernel
theorem dX11_sign_65 : decode cX11_sign 65 = .ok (.aload 4, 2) := by decide +kernel
theorem dX11_sign_67 : decode cX11_sign 67 = .ok (.getfield 181, 3) := by decide +kernel
theorem dX11_sign_70 : decode cX11_sign 70 = .ok (.iload_n 1, 1) := by decide +kernel
theorem dX11_sign_71 : decode cX11_sign 71 = .ok (.iaload, 1) := by decide +kernel
theorem dX11_sign_72 : decode cX11_sign 72 = .ok (.sipush 500, 3) := by decide +kernel
theorem dX11_sign_75 : decode cX11_sign 75 = .ok (.if_icmp .le 11, 3) := by decide +kernel
theorem dX11_sign_78 : decode cX11_sign 78 = .ok (.new 96, 3) := by decide +kernel
theorem dX11_sign_81 : decode cX11_sign 81 = .ok (.dup, 1) := by decide +kernel
theorem dX11_sign_82 : decode cX11_sign 82 = .ok (.invokespecial 98, 3) := by decide +kernel
theorem dX11_sign_85 : decode cX11_sign 85 = .ok (.athrow, 1) := by decide +kernel
theorem dX11_sign_86 : decode cX11_sign 86 = .ok (.aload_n 0, 1) := by decide +kernel
theorem dX11_sign_87 : decode cX11_sign 87 = .ok (.getfield 21, 3) := by decide +kernel
theorem dX11_sign_90 : decode cX11_sign 90 = .ok (.invokevirtual 108, 3) := by decide +kernel
theorem dX11_sign_93 : decode cX11_sign 93 = .ok (.aload 4, 2) := by decide +kernel
theorem dX11_sign_95 : decode cX11_sign 95 = .ok (.aload_n 0, 1) := by decide +kernel
theorem dX11_sign_96 : decode cX11_sign 96 = .ok (.getfield 21, 3) := by decide +kernel
theorem dX11_sign_99 : decode cX11_sign 99 = .ok (.invokevirtual 193, 3) := by decide +kernel
theorem dX11_sign_102 : decode cX11_sign 102 = .ok (.aload_n 0, 1) := by decide +kernel
theorem dX11_sign_103 : decode cX11_sign 103 = .ok (.getfield 41, 3) := by decide +kernel
theorem dX11_sign_106 : decode cX11_sign 106 = .ok (.aload_n 0, 1) := by decide +kernel
theorem dX11_sign_107 : decode cX11_sign 107 = .ok (.getfield 21, 3) := by decide +kernel
theorem dX11_sign_110 : decode cX11_sign 110 = .ok (.getfield 105, 3) := by decide +kernel
theorem dX11_sign_113 : decode cX11_sign 113 = .ok (.iconst 0, 1) := by decide +kernel
theorem dX11_sign_114 : decode cX11_sign 114 = .ok (.aload_n 0, 1) := by decide +kernel
theorem dX11_sign_115 : decode cX11_sign 115 = .ok (.getfield 21, 3) := by decide +kernel
theorem dX11_sign_118 : decode cX11_sign 118 = .ok (.getfield 93, 3) := by decide +kernel
theorem dX11_sign_121 : decode cX11_sign 121 = .ok (.invokevirtual 197, 3) := by decide +kernel
theorem dX11_sign_124 : decode cX11_sign 124 = .ok (.pop, 1) := by decide +kernel
theorem dX11_sign_125 : decode cX11_sign 125 = .ok (.aload_n 0, 1) := by decide +kernel
theorem dX11_sign_126 : decode cX11_sign 126 = .ok (.getfield 50, 3) := by decide +kernel
theorem dX11_sign_129 : decode cX11_sign 129 = .ok (.aload_n 0, 1) := by decide +kernel
theorem dX11_sign_130 : decode cX11_sign 130 = .ok (.getfield 14, 3) := by decide +kernel
theorem dX11_sign_133 : decode cX11_sign 133 = .ok (.getfield 105, 3) := by decide +kernel
theorem dX11_sign_136 : decode cX11_sign 136 = .ok (.iconst 0, 1) := by decide +kernel
theorem dX11_sign_137 : decode cX11_sign 137 = .ok (.aload_n 0, 1) := by decide +kernel
theorem dX11_sign_138 : decode cX11_sign 138 = .ok (.getfield 14, 3) := by decide +kernel
theorem dX11_sign_141 : decode cX11_sign 141 = .ok (.getfield 93, 3) := by decide +kernel
theorem dX11_sign_144 : decode cX11_sign 144 = .ok (.iconst 0, 1) := by decide +kernel
theorem dX11_sign_145 : decode cX11_sign 145 = .ok (.invokevirtual 201, 3) := by decide +kernel
theorem dX11_sign_148 : decode cX11_sign 148 = .ok (.aload_n 0, 1) := by decide +kernel
theorem dX11_sign_149 : decode cX11_sign 149 = .ok (.getfield 50, 3) := by decide +kernel
theorem dX11_sign_152 : decode cX11_sign 152 = .ok (.aload_n 0, 1) := by decide +kernel
theorem dX11_sign_153 : decode cX11_sign 153 = .ok (.getfield 41, 3) := by decide +kernel
theorem dX11_sign_156 : decode cX11_sign 156 = .ok (.iload_n 1, 1) := by decide +kernel
theorem dX11_sign_157 : decode cX11_sign 157 = .ok (.iload_n 3, 1) := by decide +kernel
theorem dX11_sign_158 : decode cX11_sign 158 = .ok (.invokevirtual 205, 3) := by decide +kernel
theorem dX11_sign_161 : decode cX11_sign 161 = .ok (.aload_n 0, 1) := by decide +kernel
theorem dX11_sign_162 : decode cX11_sign 162 = .ok (.getfield 34, 3) := by decide +kernel
theorem dX11_sign_165 : decode cX11_sign 165 = .ok (.iload_n 2, 1) := by decide +kernel
theorem dX11_sign_166 : decode cX11_sign 166 = .ok (.iload_n 3, 1) := by decide +kernel
theorem dX11_sign_167 : decode cX11_sign 167 = .ok (.aload_n 0, 1) := by decide +kernel
theorem dX11_sign_168 : decode cX11_sign 168 = .ok (.getfield 50, 3) := by decide +kernel
theorem dX11_sign_171 : decode cX11_sign 171 = .ok (.getfield 209, 3) := by decide +kernel
theorem dX11_sign_174 : decode cX11_sign 174 = .ok (.aload_n 0, 1) := by decide +kernel
theorem dX11_sign_175 : decode cX11_sign 175 = .ok (.getfield 27, 3) := by decide +kernel
theorem dX11_sign_178 : decode cX11_sign 178 = .ok (.aload_n 0, 1) := by decide +kernel
theorem dX11_sign_179 : decode cX11_sign 179 = .ok (.getfield 14, 3) := by decide +kernel
theorem dX11_sign_182 : decode cX11_sign 182 = .ok (.invokevirtual 212, 3) := by decide +kernel
theorem dX11_sign_185 : decode cX11_sign 185 = .ok (.aload 4, 2) := by decide +kernel
theorem dX11_sign_187 : decode cX11_sign 187 = .ok (.iload_n 1, 1) := by decide +kernel
theorem dX11_sign_188 : decode cX11_sign 188 = .ok (.aload_n 0, 1) := by decide +kernel
theorem dX11_sign_189 : decode cX11_sign 189 = .ok (.getfield 14, 3) := by decide +kernel
theorem dX11_sign_192 : decode cX11_sign 192 = .ok (.invokevirtual 189, 3) := by decide +kernel
theorem dX11_sign_195 : decode cX11_sign 195 = .ok (.aload_n 0, 1) := by decide +kernel
theorem dX11_sign_196 : decode cX11_sign 196 = .ok (.getfield 14, 3) := by decide +kernel
theorem dX11_sign_199 : decode cX11_sign 199 = .ok (.invokevirtual 108, 3) := by decide +kernel
theorem dX11_sign_202 : decode cX11_sign 202 = .ok (.aload 4, 2) := by decide +kernel
theorem dX11_sign_204 : decode cX11_sign 204 = .ok (.getfield 181, 3) := by decide +kernel
theorem dX11_sign_207 : decode cX11_sign 207 = .ok (.iload_n 1, 1) := by decide +kernel
theorem dX11_sign_208 : decode cX11_sign 208 = .ok (.iaload, 1) := by decide +kernel
theorem dX11_sign_209 : decode cX11_sign 209 = .ok (.ireturn, 1) := by decide +kernel
abbrev mX11_seal : ks_M := (RX11, cX11_seal, 3, (some .int), "seal")
theorem dX11_seal_0 : decode cX11_seal 0 = .ok (.iload_n 1, 1) := by decide +kernel
theorem dX11_seal_1 : decode cX11_seal 1 = .ok (.ifCond .lt 8, 3) := by decide +kernel
theorem dX11_seal_4 : decode cX11_seal 4 = .ok (.iload_n 1, 1) := by decide +kernel
theorem dX11_seal_5 : decode cX11_seal 5 = .ok (.iconst 5, 1) := by decide +kernel
theorem dX11_seal_6 : decode cX11_seal 6 = .ok (.if_icmp .le 11, 3) := by decide +kernel
theorem dX11_seal_9 : decode cX11_seal 9 = .ok (.new 102, 3) := by decide +kernel
theorem dX11_seal_12 : decode cX11_seal 12 = .ok (.dup, 1) := by decide +kernel
theorem dX11_seal_13 : decode cX11_seal 13 = .ok (.invokespecial 104, 3) := by decide +kernel
theorem dX11_seal_16 : decode cX11_seal 16 = .ok (.athrow, 1) := by decide +kernel
theorem dX11_seal_17 : decode cX11_seal 17 = .ok (.aload_n 0, 1) := by decide +kernel
theorem dX11_seal_18 : decode cX11_seal 18 = .ok (.getfield 59, 3) := by decide +kernel
theorem dX11_seal_21 : decode cX11_seal 21 = .ok (.aload_n 0, 1) := by decide +kernel
theorem dX11_seal_22 : decode cX11_seal 22 = .ok (.getfield 142, 3) := by decide +kernel
theorem dX11_seal_25 : decode cX11_seal 25 = .ok (.invokevirtual 216, 3) := by decide +kernel
theorem dX11_seal_28 : decode cX11_seal 28 = .ok (.istore_n 2, 1) := by decide +kernel
theorem dX11_seal_29 : decode cX11_seal 29 = .ok (.aload_n 0, 1) := by decide +kernel
theorem dX11_seal_30 : decode cX11_seal 30 = .ok (.iload_n 1, 1) := by decide +kernel
theorem dX11_seal_31 : decode cX11_seal 31 = .ok (.aload_n 0, 1) := by decide +kernel
theorem dX11_seal_32 : decode cX11_seal 32 = .ok (.getfield 59, 3) := by decide +kernel
theorem dX11_seal_35 : decode cX11_seal 35 = .ok (.getfield 167, 3) := by decide +kernel
theorem dX11_seal_38 : decode cX11_seal 38 = .ok (.aload_n 0, 1) := by decide +kernel
theorem dX11_seal_39 : decode cX11_seal 39 = .ok (.getfield 142, 3) := by decide +kernel
theorem dX11_seal_42 : decode cX11_seal 42 = .ok (.aaload, 1) := by decide +kernel
theorem dX11_seal_43 : decode cX11_seal 43 = .ok (.getfield 219, 3) := by decide +kernel
theorem dX11_seal_46 : decode cX11_seal 46 = .ok (.iload_n 2, 1) := by decide +kernel
theorem dX11_seal_47 : decode cX11_seal 47 = .ok (.invokevirtual 222, 3) := by decide +kernel
theorem dX11_seal_50 : decode cX11_seal 50 = .ok (.aload_n 0, 1) := by decide +kernel
theorem dX11_seal_51 : decode cX11_seal 51 = .ok (.getfield 18, 3) := by decide +kernel
theorem dX11_seal_54 : decode cX11_seal 54 = .ok (.getfield 225, 3) := by decide +kernel
theorem dX11_seal_57 : decode cX11_seal 57 = .ok (.ifCond .eq 11, 3) := by decide +kernel
theorem dX11_seal_60 : decode cX11_seal 60 = .ok (.new 96, 3) := by decide +kernel
theorem dX11_seal_63 : decode cX11_seal 63 = .ok (.dup, 1) := by decide +kernel
theorem dX11_seal_64 : decode cX11_seal 64 = .ok (.invokespecial 98, 3) := by decide +kernel
theorem dX11_seal_67 : decode cX11_seal 67 = .ok (.athrow, 1) := by decide +kernel
theorem dX11_seal_68 : decode cX11_seal 68 = .ok (.aload_n 0, 1) := by decide +kernel
theorem dX11_seal_69 : decode cX11_seal 69 = .ok (.iload_n 2, 1) := by decide +kernel
theorem dX11_seal_70 : decode cX11_seal 70 = .ok (.iload_n 1, 1) := by decide +kernel
theorem dX11_seal_71 : decode cX11_seal 71 = .ok (.iconst 3, 1) := by decide +kernel
theorem dX11_seal_72 : decode cX11_seal 72 = .ok (.if_icmp .eq 7, 3) := by decide +kernel
theorem dX11_seal_75 : decode cX11_seal 75 = .ok (.iconst 1, 1) := by decide +kernel
theorem dX11_seal_76 : decode cX11_seal 76 = .ok (.goto 4, 3) := by decide +kernel
theorem dX11_seal_79 : decode cX11_seal 79 = .ok (.iconst 0, 1) := by decide +kernel
theorem dX11_seal_80 : decode cX11_seal 80 = .ok (.invokevirtual 229, 3) := by decide +kernel
theorem dX11_seal_83 : decode cX11_seal 83 = .ok (.aload_n 0, 1) := by decide +kernel
theorem dX11_seal_84 : decode cX11_seal 84 = .ok (.getfield 14, 3) := by decide +kernel
theorem dX11_seal_87 : decode cX11_seal 87 = .ok (.invokevirtual 108, 3) := by decide +kernel
theorem dX11_seal_90 : decode cX11_seal 90 = .ok (.aload_n 0, 1) := by decide +kernel
theorem dX11_seal_91 : decode cX11_seal 91 = .ok (.getfield 14, 3) := by decide +kernel
theorem dX11_seal_94 : decode cX11_seal 94 = .ok (.aload_n 0, 1) := by decide +kernel
theorem dX11_seal_95 : decode cX11_seal 95 = .ok (.getfield 18, 3) := by decide +kernel
theorem dX11_seal_98 : decode cX11_seal 98 = .ok (.getfield 105, 3) := by decide +kernel
theorem dX11_seal_101 : decode cX11_seal 101 = .ok (.iconst 0, 1) := by decide +kernel
theorem dX11_seal_102 : decode cX11_seal 102 = .ok (.aload_n 0, 1) := by decide +kernel
theorem dX11_seal_103 : decode cX11_seal 103 = .ok (.getfield 18, 3) := by decide +kernel
theorem dX11_seal_106 : decode cX11_seal 106 = .ok (.getfield 93, 3) := by decide +kernel
theorem dX11_seal_109 : decode cX11_seal 109 = .ok (.invokevirtual 119, 3) := by decide +kernel
theorem dX11_seal_112 : decode cX11_seal 112 = .ok (.aload_n 0, 1) := by decide +kernel
theorem dX11_seal_113 : decode cX11_seal 113 = .ok (.getfield 14, 3) := by decide +kernel
theorem dX11_seal_116 : decode cX11_seal 116 = .ok (.getfield 93, 3) := by decide +kernel
theorem dX11_seal_119 : decode cX11_seal 119 = .ok (.ireturn, 1) := by decide +kernel
abbrev mX11_judge : ks_M := (RX11, cX11_judge, 5, (some .int), "judge")
theorem dX11_judge_0 : decode cX11_judge 0 = .ok (.aload_n 0, 1) := by decide +kernel
theorem dX11_judge_1 : decode cX11_judge 1 = .ok (.getfield 59, 3) := by decide +kernel
theorem dX11_judge_4 : decode cX11_judge 4 = .ok (.aload_n 0, 1) := by decide +kernel
theorem dX11_judge_5 : decode cX11_judge 5 = .ok (.getfield 14, 3) := by decide +kernel
theorem dX11_judge_8 : decode cX11_judge 8 = .ok (.invokevirtual 233, 3) := by decide +kernel
theorem dX11_judge_11 : decode cX11_judge 11 = .ok (.istore_n 1, 1) := by decide +kernel
theorem dX11_judge_12 : decode cX11_judge 12 = .ok (.aload_n 0, 1) := by decide +kernel
theorem dX11_judge_13 : decode cX11_judge 13 = .ok (.getfield 14, 3) := by decide +kernel
theorem dX11_judge_16 : decode cX11_judge 16 = .ok (.invokevirtual 108, 3) := by decide +kernel
theorem dX11_judge_19 : decode cX11_judge 19 = .ok (.iload_n 1, 1) := by decide +kernel
theorem dX11_judge_20 : decode cX11_judge 20 = .ok (.iconst (-1), 1) := by decide +kernel
theorem dX11_judge_21 : decode cX11_judge 21 = .ok (.if_icmp .ne 5, 3) := by decide +kernel
theorem dX11_judge_24 : decode cX11_judge 24 = .ok (.iconst 3, 1) := by decide +kernel
theorem dX11_judge_25 : decode cX11_judge 25 = .ok (.ireturn, 1) := by decide +kernel
theorem dX11_judge_26 : decode cX11_judge 26 = .ok (.iload_n 1, 1) := by decide +kernel
theorem dX11_judge_27 : decode cX11_judge 27 = .ok (.bipush (-2), 2) := by decide +kernel
theorem dX11_judge_29 : decode cX11_judge 29 = .ok (.if_icmp .ne 5, 3) := by decide +kernel
theorem dX11_judge_32 : decode cX11_judge 32 = .ok (.iconst 4, 1) := by decide +kernel
theorem dX11_judge_33 : decode cX11_judge 33 = .ok (.ireturn, 1) := by decide +kernel
theorem dX11_judge_34 : decode cX11_judge 34 = .ok (.iload_n 1, 1) := by decide +kernel
theorem dX11_judge_35 : decode cX11_judge 35 = .ok (.ifCond .eq 16, 3) := by decide +kernel
theorem dX11_judge_38 : decode cX11_judge 38 = .ok (.aload_n 0, 1) := by decide +kernel
theorem dX11_judge_39 : decode cX11_judge 39 = .ok (.iload_n 1, 1) := by decide +kernel
theorem dX11_judge_40 : decode cX11_judge 40 = .ok (.putfield 237, 3) := by decide +kernel
theorem dX11_judge_43 : decode cX11_judge 43 = .ok (.new 240, 3) := by decide +kernel
theorem dX11_judge_46 : decode cX11_judge 46 = .ok (.dup, 1) := by decide +kernel
theorem dX11_judge_47 : decode cX11_judge 47 = .ok (.invokespecial 242, 3) := by decide +kernel
theorem dX11_judge_50 : decode cX11_judge 50 = .ok (.athrow, 1) := by decide +kernel
theorem dX11_judge_51 : decode cX11_judge 51 = .ok (.aload_n 0, 1) := by decide +kernel
theorem dX11_judge_52 : decode cX11_judge 52 = .ok (.getfield 59, 3) := by decide +kernel
theorem dX11_judge_55 : decode cX11_judge 55 = .ok (.getfield 132, 3) := by decide +kernel
theorem dX11_judge_58 : decode cX11_judge 58 = .ok (.bipush 60, 2) := by decide +kernel
theorem dX11_judge_60 : decode cX11_judge 60 = .ok (.if_icmp .ne 11, 3) := by decide +kernel
theorem dX11_judge_63 : decode cX11_judge 63 = .ok (.new 96, 3) := by decide +kernel
theorem dX11_judge_66 : decode cX11_judge 66 = .ok (.dup, 1) := by decide +kernel
theorem dX11_judge_67 : decode cX11_judge 67 = .ok (.invokespecial 98, 3) := by decide +kernel
theorem dX11_judge_70 : decode cX11_judge 70 = .ok (.athrow, 1) := by decide +kernel
theorem dX11_judge_71 : decode cX11_judge 71 = .ok (.aload_n 0, 1) := by decide +kernel
theorem dX11_judge_72 : decode cX11_judge 72 = .ok (.getfield 59, 3) := by decide +kernel
theorem dX11_judge_75 : decode cX11_judge 75 = .ok (.invokevirtual 243, 3) := by decide +kernel
theorem dX11_judge_78 : decode cX11_judge 78 = .ok (.istore_n 2, 1) := by decide +kernel
theorem dX11_judge_79 : decode cX11_judge 79 = .ok (.aload_n 0, 1) := by decide +kernel
theorem dX11_judge_80 : decode cX11_judge 80 = .ok (.getfield 59, 3) := by decide +kernel
theorem dX11_judge_83 : decode cX11_judge 83 = .ok (.getfield 167, 3) := by decide +kernel
theorem dX11_judge_86 : decode cX11_judge 86 = .ok (.iload_n 2, 1) := by decide +kernel
theorem dX11_judge_87 : decode cX11_judge 87 = .ok (.aaload, 1) := by decide +kernel
theorem dX11_judge_88 : decode cX11_judge 88 = .ok (.getfield 247, 3) := by decide +kernel
theorem dX11_judge_91 : decode cX11_judge 91 = .ok (.aload_n 0, 1) := by decide +kernel
theorem dX11_judge_92 : decode cX11_judge 92 = .ok (.getfield 59, 3) := by decide +kernel
theorem dX11_judge_95 : decode cX11_judge 95 = .ok (.getfield 167, 3) := by decide +kernel
theorem dX11_judge_98 : decode cX11_judge 98 = .ok (.aload_n 0, 1) := by decide +kernel
theorem dX11_judge_99 : decode cX11_judge 99 = .ok (.getfield 59, 3) := by decide +kernel
theorem dX11_judge_102 : decode cX11_judge 102 = .ok (.getfield 139, 3) := by decide +kernel
theorem dX11_judge_105 : decode cX11_judge 105 = .ok (.aaload, 1) := by decide +kernel
theorem dX11_judge_106 : decode cX11_judge 106 = .ok (.getfield 247, 3) := by decide +kernel
theorem dX11_judge_109 : decode cX11_judge 109 = .ok (.lcmp, 1) := by decide +kernel
theorem dX11_judge_110 : decode cX11_judge 110 = .ok (.ifCond .gt 5, 3) := by decide +kernel
theorem dX11_judge_113 : decode cX11_judge 113 = .ok (.iconst 1, 1) := by decide +kernel
theorem dX11_judge_114 : decode cX11_judge 114 = .ok (.ireturn, 1) := by decide +kernel
theorem dX11_judge_115 : decode cX11_judge 115 = .ok (.aload_n 0, 1) := by decide +kernel
theorem dX11_judge_116 : decode cX11_judge 116 = .ok (.getfield 59, 3) := by decide +kernel
theorem dX11_judge_119 : decode cX11_judge 119 = .ok (.iload_n 2, 1) := by decide +kernel
theorem dX11_judge_120 : decode cX11_judge 120 = .ok (.invokevirtual 250, 3) := by decide +kernel
theorem dX11_judge_123 : decode cX11_judge 123 = .ok (.iconst 1, 1) := by decide +kernel
theorem dX11_judge_124 : decode cX11_judge 124 = .ok (.isub, 1) := by decide +kernel
theorem dX11_judge_125 : decode cX11_judge 125 = .ok (.istore_n 3, 1) := by decide +kernel
theorem dX11_judge_126 : decode cX11_judge 126 = .ok (.iload_n 3, 1) := by decide +kernel
theorem dX11_judge_127 : decode cX11_judge 127 = .ok (.ifCond .lt 62, 3) := by decide +kernel
theorem dX11_judge_130 : decode cX11_judge 130 = .ok (.aload_n 0, 1) := by decide +kernel
theorem dX11_judge_131 : decode cX11_judge 131 = .ok (.getfield 59, 3) := by decide +kernel
theorem dX11_judge_134 : decode cX11_judge 134 = .ok (.aload_n 0, 1) := by decide +kernel
theorem dX11_judge_135 : decode cX11_judge 135 = .ok (.getfield 59, 3) := by decide +kernel
theorem dX11_judge_138 : decode cX11_judge 138 = .ok (.getfield 253, 3) := by decide +kernel
theorem dX11_judge_141 : decode cX11_judge 141 = .ok (.iload_n 3, 1) := by decide +kernel
theorem dX11_judge_142 : decode cX11_judge 142 = .ok (.iaload, 1) := by decide +kernel
theorem dX11_judge_143 : decode cX11_judge 143 = .ok (.invokevirtual 256, 3) := by decide +kernel
theorem dX11_judge_146 : decode cX11_judge 146 = .ok (.istore 4, 2) := by decide +kernel
theorem dX11_judge_148 : decode cX11_judge 148 = .ok (.iload 4, 2) := by decide +kernel
theorem dX11_judge_150 : decode cX11_judge 150 = .ok (.ifCond .eq 33, 3) := by decide +kernel
theorem dX11_judge_153 : decode cX11_judge 153 = .ok (.aload_n 0, 1) := by decide +kernel
theorem dX11_judge_154 : decode cX11_judge 154 = .ok (.getfield 59, 3) := by decide +kernel
theorem dX11_judge_157 : decode cX11_judge 157 = .ok (.aload_n 0, 1) := by decide +kernel
theorem dX11_judge_158 : decode cX11_judge 158 = .ok (.getfield 59, 3) := by decide +kernel
theorem dX11_judge_161 : decode cX11_judge 161 = .ok (.getfield 253, 3) := by decide +kernel
theorem dX11_judge_164 : decode cX11_judge 164 = .ok (.iload_n 3, 1) := by decide +kernel
theorem dX11_judge_165 : decode cX11_judge 165 = .ok (.iaload, 1) := by decide +kernel
theorem dX11_judge_166 : decode cX11_judge 166 = .ok (.invokevirtual 259, 3) := by decide +kernel
theorem dX11_judge_169 : decode cX11_judge 169 = .ok (.aload_n 0, 1) := by decide +kernel
theorem dX11_judge_170 : decode cX11_judge 170 = .ok (.iload 4, 2) := by decide +kernel
theorem dX11_judge_172 : decode cX11_judge 172 = .ok (.putfield 237, 3) := by decide +kernel
theorem dX11_judge_175 : decode cX11_judge 175 = .ok (.new 240, 3) := by decide +kernel
theorem dX11_judge_178 : decode cX11_judge 178 = .ok (.dup, 1) := by decide +kernel
theorem dX11_judge_179 : decode cX11_judge 179 = .ok (.invokespecial 242, 3) := by decide +kernel
theorem dX11_judge_182 : decode cX11_judge 182 = .ok (.athrow, 1) := by decide +kernel
theorem dX11_judge_183 : decode cX11_judge 183 = .ok (.iinc 3 (-1), 3) := by decide +kernel
theorem dX11_judge_186 : decode cX11_judge 186 = .ok (.goto (-60), 3) := by decide +kernel
theorem dX11_judge_189 : decode cX11_judge 189 = .ok (.aload_n 0, 1) := by decide +kernel
theorem dX11_judge_190 : decode cX11_judge 190 = .ok (.getfield 59, 3) := by decide +kernel
theorem dX11_judge_193 : decode cX11_judge 193 = .ok (.getfield 139, 3) := by decide +kernel
theorem dX11_judge_196 : decode cX11_judge 196 = .ok (.istore_n 3, 1) := by decide +kernel
theorem dX11_judge_197 : decode cX11_judge 197 = .ok (.aload_n 0, 1) := by decide +kernel
theorem dX11_judge_198 : decode cX11_judge 198 = .ok (.getfield 59, 3) := by decide +kernel
theorem dX11_judge_201 : decode cX11_judge 201 = .ok (.iload_n 2, 1) := by decide +kernel
theorem dX11_judge_202 : decode cX11_judge 202 = .ok (.putfield 139, 3) := by decide +kernel
theorem dX11_judge_205 : decode cX11_judge 205 = .ok (.aload_n 0, 1) := by decide +kernel
theorem dX11_judge_206 : decode cX11_judge 206 = .ok (.getfield 59, 3) := by decide +kernel
theorem dX11_judge_209 : decode cX11_judge 209 = .ok (.getfield 167, 3) := by decide +kernel
theorem dX11_judge_212 : decode cX11_judge 212 = .ok (.iload_n 2, 1) := by decide +kernel
theorem dX11_judge_213 : decode cX11_judge 213 = .ok (.aaload, 1) := by decide +kernel
theorem dX11_judge_214 : decode cX11_judge 214 = .ok (.getfield 262, 3) := by decide +kernel
theorem dX11_judge_217 : decode cX11_judge 217 = .ok (.iload_n 3, 1) := by decide +kernel
theorem dX11_judge_218 : decode cX11_judge 218 = .ok (.if_icmp .ne 7, 3) := by decide +kernel
theorem dX11_judge_221 : decode cX11_judge 221 = .ok (.iconst 0, 1) := by decide +kernel
theorem dX11_judge_222 : decode cX11_judge 222 = .ok (.goto 4, 3) := by decide +kernel
theorem dX11_judge_225 : decode cX11_judge 225 = .ok (.iconst 2, 1) := by decide +kernel
theorem dX11_judge_226 : decode cX11_judge 226 = .ok (.ireturn, 1) := by decide +kernel
abbrev mX11_tell : ks_M := (RX11, cX11_tell, 2, (some .int), "tell")
theorem dX11_tell_0 : decode cX11_tell 0 = .ok (.iload_n 1, 1) := by decide +kernel
theorem dX11_tell_1 : decode cX11_tell 1 = .ok (.tableswitch 116 0 6 #[43, 51, 56, 64, 72, 91, 111], 43) := by decide +kernel
theorem dX11_tell_44 : decode cX11_tell 44 = .ok (.aload_n 0, 1) := by decide +kernel
theorem dX11_tell_45 : decode cX11_tell 45 = .ok (.getfield 14, 3) := by decide +kernel
theorem dX11_tell_48 : decode cX11_tell 48 = .ok (.getfield 93, 3) := by decide +kernel
theorem dX11_tell_51 : decode cX11_tell 51 = .ok (.ireturn, 1) := by decide +kernel
theorem dX11_tell_52 : decode cX11_tell 52 = .ok (.aload_n 0, 1) := by decide +kernel
theorem dX11_tell_53 : decode cX11_tell 53 = .ok (.getfield 237, 3) := by decide +kernel
theorem dX11_tell_56 : decode cX11_tell 56 = .ok (.ireturn, 1) := by decide +kernel
theorem dX11_tell_57 : decode cX11_tell 57 = .ok (.aload_n 0, 1) := by decide +kernel
theorem dX11_tell_58 : decode cX11_tell 58 = .ok (.getfield 59, 3) := by decide +kernel
theorem dX11_tell_61 : decode cX11_tell 61 = .ok (.getfield 132, 3) := by decide +kernel
theorem dX11_tell_64 : decode cX11_tell 64 = .ok (.ireturn, 1) := by decide +kernel
theorem dX11_tell_65 : decode cX11_tell 65 = .ok (.aload_n 0, 1) := by decide +kernel
theorem dX11_tell_66 : decode cX11_tell 66 = .ok (.getfield 59, 3) := by decide +kernel
theorem dX11_tell_69 : decode cX11_tell 69 = .ok (.getfield 139, 3) := by decide +kernel
theorem dX11_tell_72 : decode cX11_tell 72 = .ok (.ireturn, 1) := by decide +kernel
theorem dX11_tell_73 : decode cX11_tell 73 = .ok (.aload_n 0, 1) := by decide +kernel
theorem dX11_tell_74 : decode cX11_tell 74 = .ok (.getfield 59, 3) := by decide +kernel
theorem dX11_tell_77 : decode cX11_tell 77 = .ok (.getfield 167, 3) := by decide +kernel
theorem dX11_tell_80 : decode cX11_tell 80 = .ok (.aload_n 0, 1) := by decide +kernel
theorem dX11_tell_81 : decode cX11_tell 81 = .ok (.getfield 59, 3) := by decide +kernel
theorem dX11_tell_84 : decode cX11_tell 84 = .ok (.getfield 139, 3) := by decide +kernel
theorem dX11_tell_87 : decode cX11_tell 87 = .ok (.aaload, 1) := by decide +kernel
theorem dX11_tell_88 : decode cX11_tell 88 = .ok (.getfield 265, 3) := by decide +kernel
theorem dX11_tell_91 : decode cX11_tell 91 = .ok (.ireturn, 1) := by decide +kernel
theorem dX11_tell_92 : decode cX11_tell 92 = .ok (.aload_n 0, 1) := by decide +kernel
theorem dX11_tell_93 : decode cX11_tell 93 = .ok (.getfield 59, 3) := by decide +kernel
theorem dX11_tell_96 : decode cX11_tell 96 = .ok (.getfield 167, 3) := by decide +kernel
theorem dX11_tell_99 : decode cX11_tell 99 = .ok (.aload_n 0, 1) := by decide +kernel
theorem dX11_tell_100 : decode cX11_tell 100 = .ok (.getfield 59, 3) := by decide +kernel
theorem dX11_tell_103 : decode cX11_tell 103 = .ok (.getfield 139, 3) := by decide +kernel
theorem dX11_tell_106 : decode cX11_tell 106 = .ok (.aaload, 1) := by decide +kernel
theorem dX11_tell_107 : decode cX11_tell 107 = .ok (.getfield 268, 3) := by decide +kernel
theorem dX11_tell_110 : decode cX11_tell 110 = .ok (.arraylength, 1) := by decide +kernel
theorem dX11_tell_111 : decode cX11_tell 111 = .ok (.ireturn, 1) := by decide +kernel
theorem dX11_tell_112 : decode cX11_tell 112 = .ok (.aload_n 0, 1) := by decide +kernel
theorem dX11_tell_113 : decode cX11_tell 113 = .ok (.getfield 83, 3) := by decide +kernel
theorem dX11_tell_116 : decode cX11_tell 116 = .ok (.ireturn, 1) := by decide +kernel
theorem dX11_tell_117 : decode cX11_tell 117 = .ok (.new 102, 3) := by decide +kernel
theorem dX11_tell_120 : decode cX11_tell 120 = .ok (.dup, 1) := by decide +kernel
theorem dX11_tell_121 : decode cX11_tell 121 = .ok (.invokespecial 104, 3) := by decide +kernel
theorem dX11_tell_124 : decode cX11_tell 124 = .ok (.athrow, 1) := by decide +kernel
abbrev mX11_block : ks_M := (RX11, cX11_block, 4, (some .long), "block")
theorem dX11_block_0 : decode cX11_block 0 = .ok (.iload_n 1, 1) := by decide +kernel
theorem dX11_block_1 : decode cX11_block 1 = .ok (.ifCond .lt 14, 3) := by decide +kernel
theorem dX11_block_4 : decode cX11_block 4 = .ok (.iload_n 1, 1) := by decide +kernel
theorem dX11_block_5 : decode cX11_block 5 = .ok (.aload_n 0, 1) := by decide +kernel
theorem dX11_block_6 : decode cX11_block 6 = .ok (.getfield 59, 3) := by decide +kernel
theorem dX11_block_9 : decode cX11_block 9 = .ok (.getfield 132, 3) := by decide +kernel
theorem dX11_block_12 : decode cX11_block 12 = .ok (.if_icmp .lt 11, 3) := by decide +kernel
theorem dX11_block_15 : decode cX11_block 15 = .ok (.new 102, 3) := by decide +kernel
theorem dX11_block_18 : decode cX11_block 18 = .ok (.dup, 1) := by decide +kernel
theorem dX11_block_19 : decode cX11_block 19 = .ok (.invokespecial 104, 3) := by decide +kernel
theorem dX11_block_22 : decode cX11_block 22 = .ok (.athrow, 1) := by decide +kernel
theorem dX11_block_23 : decode cX11_block 23 = .ok (.aload_n 0, 1) := by decide +kernel
theorem dX11_block_24 : decode cX11_block 24 = .ok (.getfield 59, 3) := by decide +kernel
theorem dX11_block_27 : decode cX11_block 27 = .ok (.getfield 167, 3) := by decide +kernel
theorem dX11_block_30 : decode cX11_block 30 = .ok (.iload_n 1, 1) := by decide +kernel
theorem dX11_block_31 : decode cX11_block 31 = .ok (.aaload, 1) := by decide +kernel
theorem dX11_block_32 : decode cX11_block 32 = .ok (.astore_n 3, 1) := by decide +kernel
theorem dX11_block_33 : decode cX11_block 33 = .ok (.iload_n 2, 1) := by decide +kernel
theorem dX11_block_34 : decode cX11_block 34 = .ok (.tableswitch 113 0 8 #[50, 56, 62, 72, 77, 87, 93, 99, 104], 50) := by decide +kernel
theorem dX11_block_84 : decode cX11_block 84 = .ok (.aload_n 3, 1) := by decide +kernel
theorem dX11_block_85 : decode cX11_block 85 = .ok (.getfield 265, 3) := by decide +kernel
theorem dX11_block_88 : decode cX11_block 88 = .ok (.i2l, 1) := by decide +kernel
theorem dX11_block_89 : decode cX11_block 89 = .ok (.lreturn, 1) := by decide +kernel
theorem dX11_block_90 : decode cX11_block 90 = .ok (.aload_n 3, 1) := by decide +kernel
theorem dX11_block_91 : decode cX11_block 91 = .ok (.getfield 262, 3) := by decide +kernel
theorem dX11_block_94 : decode cX11_block 94 = .ok (.i2l, 1) := by decide +kernel
theorem dX11_block_95 : decode cX11_block 95 = .ok (.lreturn, 1) := by decide +kernel
theorem dX11_block_96 : decode cX11_block 96 = .ok (.aload_n 0, 1) := by decide +kernel
theorem dX11_block_97 : decode cX11_block 97 = .ok (.getfield 59, 3) := by decide +kernel
theorem dX11_block_100 : decode cX11_block 100 = .ok (.iload_n 1, 1) := by decide +kernel
theorem dX11_block_101 : decode cX11_block 101 = .ok (.invokevirtual 271, 3) := by decide +kernel
theorem dX11_block_104 : decode cX11_block 104 = .ok (.i2l, 1) := by decide +kernel
theorem dX11_block_105 : decode cX11_block 105 = .ok (.lreturn, 1) := by decide +kernel
theorem dX11_block_106 : decode cX11_block 106 = .ok (.aload_n 3, 1) := by decide +kernel
theorem dX11_block_107 : decode cX11_block 107 = .ok (.invokevirtual 274, 3) := by decide +kernel
theorem dX11_block_110 : decode cX11_block 110 = .ok (.lreturn, 1) := by decide +kernel
theorem dX11_block_111 : decode cX11_block 111 = .ok (.aload_n 3, 1) := by decide +kernel
theorem dX11_block_112 : decode cX11_block 112 = .ok (.invokevirtual 278, 3) := by decide +kernel
theorem dX11_block_115 : decode cX11_block 115 = .ok (.i2l, 1) := by decide +kernel
theorem dX11_block_116 : decode cX11_block 116 = .ok (.ldc2_w 281, 3) := by decide +kernel
theorem dX11_block_119 : decode cX11_block 119 = .ok (.land, 1) := by decide +kernel
theorem dX11_block_120 : decode cX11_block 120 = .ok (.lreturn, 1) := by decide +kernel
theorem dX11_block_121 : decode cX11_block 121 = .ok (.aload_n 3, 1) := by decide +kernel
theorem dX11_block_122 : decode cX11_block 122 = .ok (.getfield 283, 3) := by decide +kernel
theorem dX11_block_125 : decode cX11_block 125 = .ok (.i2l, 1) := by decide +kernel
theorem dX11_block_126 : decode cX11_block 126 = .ok (.lreturn, 1) := by decide +kernel
theorem dX11_block_127 : decode cX11_block 127 = .ok (.aload_n 3, 1) := by decide +kernel
theorem dX11_block_128 : decode cX11_block 128 = .ok (.getfield 286, 3) := by decide +kernel
theorem dX11_block_131 : decode cX11_block 131 = .ok (.i2l, 1) := by decide +kernel
theorem dX11_block_132 : decode cX11_block 132 = .ok (.lreturn, 1) := by decide +kernel
theorem dX11_block_133 : decode cX11_block 133 = .ok (.aload_n 3, 1) := by decide +kernel
theorem dX11_block_134 : decode cX11_block 134 = .ok (.getfield 247, 3) := by decide +kernel
theorem dX11_block_137 : decode cX11_block 137 = .ok (.lreturn, 1) := by decide +kernel
theorem dX11_block_138 : decode cX11_block 138 = .ok (.aload_n 0, 1) := by decide +kernel
theorem dX11_block_139 : decode cX11_block 139 = .ok (.getfield 59, 3) := by decide +kernel
theorem dX11_block_142 : decode cX11_block 142 = .ok (.iload_n 1, 1) := by decide +kernel
theorem dX11_block_143 : decode cX11_block 143 = .ok (.invokevirtual 287, 3) := by decide +kernel
theorem dX11_block_146 : decode cX11_block 146 = .ok (.lreturn, 1) := by decide +kernel
theorem dX11_block_147 : decode cX11_block 147 = .ok (.new 102, 3) := by decide +kernel
theorem dX11_block_150 : decode cX11_block 150 = .ok (.dup, 1) := by decide +kernel
theorem dX11_block_151 : decode cX11_block 151 = .ok (.invokespecial 104, 3) := by decide +kernel
theorem dX11_block_154 : decode cX11_block 154 = .ok (.athrow, 1) := by decide +kernel
abbrev mX11_coin : ks_M := (RX11, cX11_coin, 4, (some .long), "coin")
theorem dX11_coin_0 : decode cX11_coin 0 = .ok (.iload_n 1, 1) := by decide +kernel
theorem dX11_coin_1 : decode cX11_coin 1 = .ok (.ifCond .lt 12, 3) := by decide +kernel
theorem dX11_coin_4 : decode cX11_coin 4 = .ok (.aload_n 0, 1) := by decide +kernel
theorem dX11_coin_5 : decode cX11_coin 5 = .ok (.iload_n 1, 1) := by decide +kernel
theorem dX11_coin_6 : decode cX11_coin 6 = .ok (.iload_n 2, 1) := by decide +kernel
theorem dX11_coin_7 : decode cX11_coin 7 = .ok (.invokevirtual 149, 3) := by decide +kernel
theorem dX11_coin_10 : decode cX11_coin 10 = .ok (.ifCond .ne 11, 3) := by decide +kernel
theorem dX11_coin_13 : decode cX11_coin 13 = .ok (.new 102, 3) := by decide +kernel
theorem dX11_coin_16 : decode cX11_coin 16 = .ok (.dup, 1) := by decide +kernel
theorem dX11_coin_17 : decode cX11_coin 17 = .ok (.invokespecial 104, 3) := by decide +kernel
theorem dX11_coin_20 : decode cX11_coin 20 = .ok (.athrow, 1) := by decide +kernel
theorem dX11_coin_21 : decode cX11_coin 21 = .ok (.aload_n 0, 1) := by decide +kernel
theorem dX11_coin_22 : decode cX11_coin 22 = .ok (.getfield 59, 3) := by decide +kernel
theorem dX11_coin_25 : decode cX11_coin 25 = .ok (.aload_n 0, 1) := by decide +kernel
theorem dX11_coin_26 : decode cX11_coin 26 = .ok (.getfield 59, 3) := by decide +kernel
theorem dX11_coin_29 : decode cX11_coin 29 = .ok (.getfield 167, 3) := by decide +kernel
theorem dX11_coin_32 : decode cX11_coin 32 = .ok (.iload_n 1, 1) := by decide +kernel
theorem dX11_coin_33 : decode cX11_coin 33 = .ok (.aaload, 1) := by decide +kernel
theorem dX11_coin_34 : decode cX11_coin 34 = .ok (.getfield 171, 3) := by decide +kernel
theorem dX11_coin_37 : decode cX11_coin 37 = .ok (.bipush 32, 2) := by decide +kernel
theorem dX11_coin_39 : decode cX11_coin 39 = .ok (.iload_n 2, 1) := by decide +kernel
theorem dX11_coin_40 : decode cX11_coin 40 = .ok (.imul, 1) := by decide +kernel
theorem dX11_coin_41 : decode cX11_coin 41 = .ok (.iload_n 3, 1) := by decide +kernel
theorem dX11_coin_42 : decode cX11_coin 42 = .ok (.invokevirtual 291, 3) := by decide +kernel
theorem dX11_coin_45 : decode cX11_coin 45 = .ok (.lreturn, 1) := by decide +kernel
abbrev mX11_coins : ks_M := (RX11, cX11_coins, 1, (some .long), "coins")
theorem dX11_coins_0 : decode cX11_coins 0 = .ok (.aload_n 0, 1) := by decide +kernel
theorem dX11_coins_1 : decode cX11_coins 1 = .ok (.getfield 59, 3) := by decide +kernel
theorem dX11_coins_4 : decode cX11_coins 4 = .ok (.invokevirtual 295, 3) := by decide +kernel
theorem dX11_coins_7 : decode cX11_coins 7 = .ok (.lreturn, 1) := by decide +kernel
abbrev mX11_word : ks_M := (RX11, cX11_word, 5, (some .long), "word")
theorem dX11_word_0 : decode cX11_word 0 = .ok (.iload_n 1, 1) := by decide +kernel
theorem dX11_word_1 : decode cX11_word 1 = .ok (.ifCond .lt 14, 3) := by decide +kernel
theorem dX11_word_4 : decode cX11_word 4 = .ok (.iload_n 1, 1) := by decide +kernel
theorem dX11_word_5 : decode cX11_word 5 = .ok (.aload_n 0, 1) := by decide +kernel
theorem dX11_word_6 : decode cX11_word 6 = .ok (.getfield 14, 3) := by decide +kernel
theorem dX11_word_9 : decode cX11_word 9 = .ok (.getfield 93, 3) := by decide +kernel
theorem dX11_word_12 : decode cX11_word 12 = .ok (.if_icmp .lt 11, 3) := by decide +kernel
theorem dX11_word_15 : decode cX11_word 15 = .ok (.new 96, 3) := by decide +kernel
theorem dX11_word_18 : decode cX11_word 18 = .ok (.dup, 1) := by decide +kernel
theorem dX11_word_19 : decode cX11_word 19 = .ok (.invokespecial 98, 3) := by decide +kernel
theorem dX11_word_22 : decode cX11_word 22 = .ok (.athrow, 1) := by decide +kernel
theorem dX11_word_23 : decode cX11_word 23 = .ok (.lconst 0, 1) := by decide +kernel
theorem dX11_word_24 : decode cX11_word 24 = .ok (.lstore_n 2, 1) := by decide +kernel
theorem dX11_word_25 : decode cX11_word 25 = .ok (.iconst 0, 1) := by decide +kernel
theorem dX11_word_26 : decode cX11_word 26 = .ok (.istore 4, 2) := by decide +kernel
theorem dX11_word_28 : decode cX11_word 28 = .ok (.iload 4, 2) := by decide +kernel
theorem dX11_word_30 : decode cX11_word 30 = .ok (.bipush 8, 2) := by decide +kernel
theorem dX11_word_32 : decode cX11_word 32 = .ok (.if_icmp .ge 50, 3) := by decide +kernel
theorem dX11_word_35 : decode cX11_word 35 = .ok (.lload_n 2, 1) := by decide +kernel
theorem dX11_word_36 : decode cX11_word 36 = .ok (.bipush 8, 2) := by decide +kernel
theorem dX11_word_38 : decode cX11_word 38 = .ok (.lshl, 1) := by decide +kernel
theorem dX11_word_39 : decode cX11_word 39 = .ok (.iload_n 1, 1) := by decide +kernel
theorem dX11_word_40 : decode cX11_word 40 = .ok (.iload 4, 2) := by decide +kernel
theorem dX11_word_42 : decode cX11_word 42 = .ok (.iadd, 1) := by decide +kernel
theorem dX11_word_43 : decode cX11_word 43 = .ok (.aload_n 0, 1) := by decide +kernel
theorem dX11_word_44 : decode cX11_word 44 = .ok (.getfield 14, 3) := by decide +kernel
theorem dX11_word_47 : decode cX11_word 47 = .ok (.getfield 93, 3) := by decide +kernel
theorem dX11_word_50 : decode cX11_word 50 = .ok (.if_icmp .ge 22, 3) := by decide +kernel
theorem dX11_word_53 : decode cX11_word 53 = .ok (.aload_n 0, 1) := by decide +kernel
theorem dX11_word_54 : decode cX11_word 54 = .ok (.getfield 14, 3) := by decide +kernel
theorem dX11_word_57 : decode cX11_word 57 = .ok (.getfield 105, 3) := by decide +kernel
theorem dX11_word_60 : decode cX11_word 60 = .ok (.iload_n 1, 1) := by decide +kernel
theorem dX11_word_61 : decode cX11_word 61 = .ok (.iload 4, 2) := by decide +kernel
theorem dX11_word_63 : decode cX11_word 63 = .ok (.iadd, 1) := by decide +kernel
theorem dX11_word_64 : decode cX11_word 64 = .ok (.baload, 1) := by decide +kernel
theorem dX11_word_65 : decode cX11_word 65 = .ok (.sipush 255, 3) := by decide +kernel
theorem dX11_word_68 : decode cX11_word 68 = .ok (.iand, 1) := by decide +kernel
theorem dX11_word_69 : decode cX11_word 69 = .ok (.goto 4, 3) := by decide +kernel
theorem dX11_word_72 : decode cX11_word 72 = .ok (.iconst 0, 1) := by decide +kernel
theorem dX11_word_73 : decode cX11_word 73 = .ok (.i2l, 1) := by decide +kernel
theorem dX11_word_74 : decode cX11_word 74 = .ok (.lor, 1) := by decide +kernel
theorem dX11_word_75 : decode cX11_word 75 = .ok (.lstore_n 2, 1) := by decide +kernel
theorem dX11_word_76 : decode cX11_word 76 = .ok (.iinc 4 1, 3) := by decide +kernel
theorem dX11_word_79 : decode cX11_word 79 = .ok (.goto (-51), 3) := by decide +kernel
theorem dX11_word_82 : decode cX11_word 82 = .ok (.lload_n 2, 1) := by decide +kernel
theorem dX11_word_83 : decode cX11_word 83 = .ok (.lreturn, 1) := by decide +kernel
abbrev mX11_isNotUnsigned : ks_M := (RX11, cX11_isNotUnsigned, 2, (some .boolean), "isNotUnsigned")
theorem dX11_isNotUnsigned_0 : decode cX11_isNotUnsigned 0 = .ok (.lload_n 0, 1) := by decide +kernel
theorem dX11_isNotUnsigned_1 : decode cX11_isNotUnsigned 1 = .ok (.lconst 0, 1) := by decide +kernel
theorem dX11_isNotUnsigned_2 : decode cX11_isNotUnsigned 2 = .ok (.lcmp, 1) := by decide +kernel
theorem dX11_isNotUnsigned_3 : decode cX11_isNotUnsigned 3 = .ok (.ifCond .lt 11, 3) := by decide +kernel
theorem dX11_isNotUnsigned_6 : decode cX11_isNotUnsigned 6 = .ok (.lload_n 0, 1) := by decide +kernel
theorem dX11_isNotUnsigned_7 : decode cX11_isNotUnsigned 7 = .ok (.ldc2_w 281, 3) := by decide +kernel
theorem dX11_isNotUnsigned_10 : decode cX11_isNotUnsigned 10 = .ok (.lcmp, 1) := by decide +kernel
theorem dX11_isNotUnsigned_11 : decode cX11_isNotUnsigned 11 = .ok (.ifCond .le 7, 3) := by decide +kernel
theorem dX11_isNotUnsigned_14 : decode cX11_isNotUnsigned 14 = .ok (.iconst 1, 1) := by decide +kernel
theorem dX11_isNotUnsigned_15 : decode cX11_isNotUnsigned 15 = .ok (.goto 4, 3) := by decide +kernel
theorem dX11_isNotUnsigned_18 : decode cX11_isNotUnsigned 18 = .ok (.iconst 0, 1) := by decide +kernel
theorem dX11_isNotUnsigned_19 : decode cX11_isNotUnsigned 19 = .ok (.ireturn, 1) := by decide +kernel
abbrev mX11_hasTransaction : ks_M := (RX11, cX11_hasTransaction, 3, (some .boolean), "hasTransaction")
theorem dX11_hasTransaction_0 : decode cX11_hasTransaction 0 = .ok (.iload_n 2, 1) := by decide +kernel
theorem dX11_hasTransaction_1 : decode cX11_hasTransaction 1 = .ok (.ifCond .lt 14, 3) := by decide +kernel
theorem dX11_hasTransaction_4 : decode cX11_hasTransaction 4 = .ok (.iload_n 1, 1) := by decide +kernel
theorem dX11_hasTransaction_5 : decode cX11_hasTransaction 5 = .ok (.aload_n 0, 1) := by decide +kernel
theorem dX11_hasTransaction_6 : decode cX11_hasTransaction 6 = .ok (.getfield 59, 3) := by decide +kernel
theorem dX11_hasTransaction_9 : decode cX11_hasTransaction 9 = .ok (.getfield 132, 3) := by decide +kernel
theorem dX11_hasTransaction_12 : decode cX11_hasTransaction 12 = .ok (.if_icmp .lt 5, 3) := by decide +kernel
theorem dX11_hasTransaction_15 : decode cX11_hasTransaction 15 = .ok (.iconst 0, 1) := by decide +kernel
theorem dX11_hasTransaction_16 : decode cX11_hasTransaction 16 = .ok (.ireturn, 1) := by decide +kernel
theorem dX11_hasTransaction_17 : decode cX11_hasTransaction 17 = .ok (.iload_n 2, 1) := by decide +kernel
theorem dX11_hasTransaction_18 : decode cX11_hasTransaction 18 = .ok (.iload_n 1, 1) := by decide +kernel
theorem dX11_hasTransaction_19 : decode cX11_hasTransaction 19 = .ok (.ifCond .ge 10, 3) := by decide +kernel
theorem dX11_hasTransaction_22 : decode cX11_hasTransaction 22 = .ok (.aload_n 0, 1) := by decide +kernel
theorem dX11_hasTransaction_23 : decode cX11_hasTransaction 23 = .ok (.getfield 83, 3) := by decide +kernel
theorem dX11_hasTransaction_26 : decode cX11_hasTransaction 26 = .ok (.goto 15, 3) := by decide +kernel
theorem dX11_hasTransaction_29 : decode cX11_hasTransaction 29 = .ok (.aload_n 0, 1) := by decide +kernel
theorem dX11_hasTransaction_30 : decode cX11_hasTransaction 30 = .ok (.getfield 59, 3) := by decide +kernel
theorem dX11_hasTransaction_33 : decode cX11_hasTransaction 33 = .ok (.getfield 167, 3) := by decide +kernel
theorem dX11_hasTransaction_36 : decode cX11_hasTransaction 36 = .ok (.iload_n 1, 1) := by decide +kernel
theorem dX11_hasTransaction_37 : decode cX11_hasTransaction 37 = .ok (.aaload, 1) := by decide +kernel
theorem dX11_hasTransaction_38 : decode cX11_hasTransaction 38 = .ok (.getfield 283, 3) := by decide +kernel
theorem dX11_hasTransaction_41 : decode cX11_hasTransaction 41 = .ok (.if_icmp .ge 7, 3) := by decide +kernel
theorem dX11_hasTransaction_44 : decode cX11_hasTransaction 44 = .ok (.iconst 1, 1) := by decide +kernel
theorem dX11_hasTransaction_45 : decode cX11_hasTransaction 45 = .ok (.goto 4, 3) := by decide +kernel
theorem dX11_hasTransaction_48 : decode cX11_hasTransaction 48 = .ok (.iconst 0, 1) := by decide +kernel
theorem dX11_hasTransaction_49 : decode cX11_hasTransaction 49 = .ok (.ireturn, 1) := by decide +kernel
abbrev mX11_nameDraft : ks_M := (RX11, cX11_nameDraft, 4, none, "nameDraft")
theorem dX11_nameDraft_0 : decode cX11_nameDraft 0 = .ok (.aload_n 0, 1) := by decide +kernel
theorem dX11_nameDraft_1 : decode cX11_nameDraft 1 = .ok (.getfield 21, 3) := by decide +kernel
theorem dX11_nameDraft_4 : decode cX11_nameDraft 4 = .ok (.invokevirtual 108, 3) := by decide +kernel
theorem dX11_nameDraft_7 : decode cX11_nameDraft 7 = .ok (.aload_n 0, 1) := by decide +kernel
theorem dX11_nameDraft_8 : decode cX11_nameDraft 8 = .ok (.getfield 65, 3) := by decide +kernel
theorem dX11_nameDraft_11 : decode cX11_nameDraft 11 = .ok (.iload_n 1, 1) := by decide +kernel
theorem dX11_nameDraft_12 : decode cX11_nameDraft 12 = .ok (.aaload, 1) := by decide +kernel
theorem dX11_nameDraft_13 : decode cX11_nameDraft 13 = .ok (.aload_n 0, 1) := by decide +kernel
theorem dX11_nameDraft_14 : decode cX11_nameDraft 14 = .ok (.getfield 21, 3) := by decide +kernel
theorem dX11_nameDraft_17 : decode cX11_nameDraft 17 = .ok (.invokevirtual 193, 3) := by decide +kernel
theorem dX11_nameDraft_20 : decode cX11_nameDraft 20 = .ok (.aload_n 0, 1) := by decide +kernel
theorem dX11_nameDraft_21 : decode cX11_nameDraft 21 = .ok (.getfield 27, 3) := by decide +kernel
theorem dX11_nameDraft_24 : decode cX11_nameDraft 24 = .ok (.aload_n 0, 1) := by decide +kernel
theorem dX11_nameDraft_25 : decode cX11_nameDraft 25 = .ok (.getfield 21, 3) := by decide +kernel
theorem dX11_nameDraft_28 : decode cX11_nameDraft 28 = .ok (.getfield 105, 3) := by decide +kernel
theorem dX11_nameDraft_31 : decode cX11_nameDraft 31 = .ok (.iconst 0, 1) := by decide +kernel
theorem dX11_nameDraft_32 : decode cX11_nameDraft 32 = .ok (.aload_n 0, 1) := by decide +kernel
theorem dX11_nameDraft_33 : decode cX11_nameDraft 33 = .ok (.getfield 21, 3) := by decide +kernel
theorem dX11_nameDraft_36 : decode cX11_nameDraft 36 = .ok (.getfield 93, 3) := by decide +kernel
theorem dX11_nameDraft_39 : decode cX11_nameDraft 39 = .ok (.aload_n 2, 1) := by decide +kernel
theorem dX11_nameDraft_40 : decode cX11_nameDraft 40 = .ok (.iload_n 3, 1) := by decide +kernel
theorem dX11_nameDraft_41 : decode cX11_nameDraft 41 = .ok (.invokevirtual 129, 3) := by decide +kernel
theorem dX11_nameDraft_44 : decode cX11_nameDraft 44 = .ok (.return_, 1) := by decide +kernel
abbrev mX11_keepFirstBlock : ks_M := (RX11, cX11_keepFirstBlock, 1, none, "keepFirstBlock")
theorem dX11_keepFirstBlock_0 : decode cX11_keepFirstBlock 0 = .ok (.aload_n 0, 1) := by decide +kernel
theorem dX11_keepFirstBlock_1 : decode cX11_keepFirstBlock 1 = .ok (.getfield 65, 3) := by decide +kernel
theorem dX11_keepFirstBlock_4 : decode cX11_keepFirstBlock 4 = .ok (.iconst 0, 1) := by decide +kernel
theorem dX11_keepFirstBlock_5 : decode cX11_keepFirstBlock 5 = .ok (.aaload, 1) := by decide +kernel
theorem dX11_keepFirstBlock_6 : decode cX11_keepFirstBlock 6 = .ok (.lconst 1, 1) := by decide +kernel
theorem dX11_keepFirstBlock_7 : decode cX11_keepFirstBlock 7 = .ok (.lconst 0, 1) := by decide +kernel
theorem dX11_keepFirstBlock_8 : decode cX11_keepFirstBlock 8 = .ok (.invokevirtual 145, 3) := by decide +kernel
theorem dX11_keepFirstBlock_11 : decode cX11_keepFirstBlock 11 = .ok (.aload_n 0, 1) := by decide +kernel
theorem dX11_keepFirstBlock_12 : decode cX11_keepFirstBlock 12 = .ok (.getfield 14, 3) := by decide +kernel
theorem dX11_keepFirstBlock_15 : decode cX11_keepFirstBlock 15 = .ok (.lconst 0, 1) := by decide +kernel
theorem dX11_keepFirstBlock_16 : decode cX11_keepFirstBlock 16 = .ok (.iconst 2, 1) := by decide +kernel
theorem dX11_keepFirstBlock_17 : decode cX11_keepFirstBlock 17 = .ok (.invokevirtual 298, 3) := by decide +kernel
theorem dX11_keepFirstBlock_20 : decode cX11_keepFirstBlock 20 = .ok (.aload_n 0, 1) := by decide +kernel
theorem dX11_keepFirstBlock_21 : decode cX11_keepFirstBlock 21 = .ok (.getfield 65, 3) := by decide +kernel
theorem dX11_keepFirstBlock_24 : decode cX11_keepFirstBlock 24 = .ok (.iconst 0, 1) := by decide +kernel
theorem dX11_keepFirstBlock_25 : decode cX11_keepFirstBlock 25 = .ok (.aaload, 1) := by decide +kernel
theorem dX11_keepFirstBlock_26 : decode cX11_keepFirstBlock 26 = .ok (.aload_n 0, 1) := by decide +kernel
theorem dX11_keepFirstBlock_27 : decode cX11_keepFirstBlock 27 = .ok (.getfield 76, 3) := by decide +kernel
theorem dX11_keepFirstBlock_30 : decode cX11_keepFirstBlock 30 = .ok (.iconst 0, 1) := by decide +kernel
theorem dX11_keepFirstBlock_31 : decode cX11_keepFirstBlock 31 = .ok (.iconst (-1), 1) := by decide +kernel
theorem dX11_keepFirstBlock_32 : decode cX11_keepFirstBlock 32 = .ok (.ldc2_w 281, 3) := by decide +kernel
theorem dX11_keepFirstBlock_35 : decode cX11_keepFirstBlock 35 = .ok (.aload_n 0, 1) := by decide +kernel
theorem dX11_keepFirstBlock_36 : decode cX11_keepFirstBlock 36 = .ok (.getfield 14, 3) := by decide +kernel
theorem dX11_keepFirstBlock_39 : decode cX11_keepFirstBlock 39 = .ok (.invokevirtual 159, 3) := by decide +kernel
theorem dX11_keepFirstBlock_42 : decode cX11_keepFirstBlock 42 = .ok (.aload_n 0, 1) := by decide +kernel
theorem dX11_keepFirstBlock_43 : decode cX11_keepFirstBlock 43 = .ok (.getfield 14, 3) := by decide +kernel
theorem dX11_keepFirstBlock_46 : decode cX11_keepFirstBlock 46 = .ok (.invokevirtual 108, 3) := by decide +kernel
theorem dX11_keepFirstBlock_49 : decode cX11_keepFirstBlock 49 = .ok (.aload_n 0, 1) := by decide +kernel
theorem dX11_keepFirstBlock_50 : decode cX11_keepFirstBlock 50 = .ok (.getfield 14, 3) := by decide +kernel
theorem dX11_keepFirstBlock_53 : decode cX11_keepFirstBlock 53 = .ok (.ldc2_w 302, 3) := by decide +kernel
theorem dX11_keepFirstBlock_56 : decode cX11_keepFirstBlock 56 = .ok (.iconst 1, 1) := by decide +kernel
theorem dX11_keepFirstBlock_57 : decode cX11_keepFirstBlock 57 = .ok (.invokevirtual 298, 3) := by decide +kernel
theorem dX11_keepFirstBlock_60 : decode cX11_keepFirstBlock 60 = .ok (.aload_n 0, 1) := by decide +kernel
theorem dX11_keepFirstBlock_61 : decode cX11_keepFirstBlock 61 = .ok (.getfield 65, 3) := by decide +kernel
theorem dX11_keepFirstBlock_64 : decode cX11_keepFirstBlock 64 = .ok (.iconst 0, 1) := by decide +kernel
theorem dX11_keepFirstBlock_65 : decode cX11_keepFirstBlock 65 = .ok (.aaload, 1) := by decide +kernel
theorem dX11_keepFirstBlock_66 : decode cX11_keepFirstBlock 66 = .ok (.ldc2_w 304, 3) := by decide +kernel
theorem dX11_keepFirstBlock_69 : decode cX11_keepFirstBlock 69 = .ok (.aload_n 0, 1) := by decide +kernel
theorem dX11_keepFirstBlock_70 : decode cX11_keepFirstBlock 70 = .ok (.getfield 14, 3) := by decide +kernel
theorem dX11_keepFirstBlock_73 : decode cX11_keepFirstBlock 73 = .ok (.invokevirtual 177, 3) := by decide +kernel
theorem dX11_keepFirstBlock_76 : decode cX11_keepFirstBlock 76 = .ok (.aload_n 0, 1) := by decide +kernel
theorem dX11_keepFirstBlock_77 : decode cX11_keepFirstBlock 77 = .ok (.getfield 14, 3) := by decide +kernel
theorem dX11_keepFirstBlock_80 : decode cX11_keepFirstBlock 80 = .ok (.invokevirtual 108, 3) := by decide +kernel
theorem dX11_keepFirstBlock_83 : decode cX11_keepFirstBlock 83 = .ok (.aload_n 0, 1) := by decide +kernel
theorem dX11_keepFirstBlock_84 : decode cX11_keepFirstBlock 84 = .ok (.iconst 1, 1) := by decide +kernel
theorem dX11_keepFirstBlock_85 : decode cX11_keepFirstBlock 85 = .ok (.putfield 83, 3) := by decide +kernel
theorem dX11_keepFirstBlock_88 : decode cX11_keepFirstBlock 88 = .ok (.aload_n 0, 1) := by decide +kernel
theorem dX11_keepFirstBlock_89 : decode cX11_keepFirstBlock 89 = .ok (.ldc2_w 306, 3) := by decide +kernel
theorem dX11_keepFirstBlock_92 : decode cX11_keepFirstBlock 92 = .ok (.putfield 89, 3) := by decide +kernel
theorem dX11_keepFirstBlock_95 : decode cX11_keepFirstBlock 95 = .ok (.aload_n 0, 1) := by decide +kernel
theorem dX11_keepFirstBlock_96 : decode cX11_keepFirstBlock 96 = .ok (.iconst 0, 1) := by decide +kernel
theorem dX11_keepFirstBlock_97 : decode cX11_keepFirstBlock 97 = .ok (.aload_n 0, 1) := by decide +kernel
theorem dX11_keepFirstBlock_98 : decode cX11_keepFirstBlock 98 = .ok (.getfield 76, 3) := by decide +kernel
theorem dX11_keepFirstBlock_101 : decode cX11_keepFirstBlock 101 = .ok (.ldc_w 308, 3) := by decide +kernel
theorem dX11_keepFirstBlock_104 : decode cX11_keepFirstBlock 104 = .ok (.invokevirtual 222, 3) := by decide +kernel
theorem dX11_keepFirstBlock_107 : decode cX11_keepFirstBlock 107 = .ok (.aload_n 0, 1) := by decide +kernel
theorem dX11_keepFirstBlock_108 : decode cX11_keepFirstBlock 108 = .ok (.ldc_w 308, 3) := by decide +kernel
theorem dX11_keepFirstBlock_111 : decode cX11_keepFirstBlock 111 = .ok (.iconst 1, 1) := by decide +kernel
theorem dX11_keepFirstBlock_112 : decode cX11_keepFirstBlock 112 = .ok (.invokevirtual 229, 3) := by decide +kernel
theorem dX11_keepFirstBlock_115 : decode cX11_keepFirstBlock 115 = .ok (.aload_n 0, 1) := by decide +kernel
theorem dX11_keepFirstBlock_116 : decode cX11_keepFirstBlock 116 = .ok (.getfield 59, 3) := by decide +kernel
theorem dX11_keepFirstBlock_119 : decode cX11_keepFirstBlock 119 = .ok (.aload_n 0, 1) := by decide +kernel
theorem dX11_keepFirstBlock_120 : decode cX11_keepFirstBlock 120 = .ok (.getfield 18, 3) := by decide +kernel
theorem dX11_keepFirstBlock_123 : decode cX11_keepFirstBlock 123 = .ok (.invokevirtual 309, 3) := by decide +kernel
theorem dX11_keepFirstBlock_126 : decode cX11_keepFirstBlock 126 = .ok (.return_, 1) := by decide +kernel
abbrev mX11_draw : ks_M := (RX11, cX11_draw, 5, none, "draw")
theorem dX11_draw_0 : decode cX11_draw 0 = .ok (.iconst 0, 1) := by decide +kernel
theorem dX11_draw_1 : decode cX11_draw 1 = .ok (.istore 4, 2) := by decide +kernel
theorem dX11_draw_3 : decode cX11_draw 3 = .ok (.iload 4, 2) := by decide +kernel
theorem dX11_draw_5 : decode cX11_draw 5 = .ok (.aload_n 0, 1) := by decide +kernel
theorem dX11_draw_6 : decode cX11_draw 6 = .ok (.getfield 83, 3) := by decide +kernel
theorem dX11_draw_9 : decode cX11_draw 9 = .ok (.if_icmp .ge 24, 3) := by decide +kernel
theorem dX11_draw_12 : decode cX11_draw 12 = .ok (.aload_n 0, 1) := by decide +kernel
theorem dX11_draw_13 : decode cX11_draw 13 = .ok (.iload 4, 2) := by decide +kernel
theorem dX11_draw_15 : decode cX11_draw 15 = .ok (.aload_n 0, 1) := by decide +kernel
theorem dX11_draw_16 : decode cX11_draw 16 = .ok (.getfield 69, 3) := by decide +kernel
theorem dX11_draw_19 : decode cX11_draw 19 = .ok (.bipush 32, 2) := by decide +kernel
theorem dX11_draw_21 : decode cX11_draw 21 = .ok (.iload 4, 2) := by decide +kernel
theorem dX11_draw_23 : decode cX11_draw 23 = .ok (.imul, 1) := by decide +kernel
theorem dX11_draw_24 : decode cX11_draw 24 = .ok (.invokevirtual 163, 3) := by decide +kernel
theorem dX11_draw_27 : decode cX11_draw 27 = .ok (.iinc 4 1, 3) := by decide +kernel
theorem dX11_draw_30 : decode cX11_draw 30 = .ok (.goto (-27), 3) := by decide +kernel
theorem dX11_draw_33 : decode cX11_draw 33 = .ok (.aload_n 0, 1) := by decide +kernel
theorem dX11_draw_34 : decode cX11_draw 34 = .ok (.getfield 27, 3) := by decide +kernel
theorem dX11_draw_37 : decode cX11_draw 37 = .ok (.aload_n 0, 1) := by decide +kernel
theorem dX11_draw_38 : decode cX11_draw 38 = .ok (.getfield 69, 3) := by decide +kernel
theorem dX11_draw_41 : decode cX11_draw 41 = .ok (.aload_n 0, 1) := by decide +kernel
theorem dX11_draw_42 : decode cX11_draw 42 = .ok (.getfield 83, 3) := by decide +kernel
theorem dX11_draw_45 : decode cX11_draw 45 = .ok (.aload_n 0, 1) := by decide +kernel
theorem dX11_draw_46 : decode cX11_draw 46 = .ok (.getfield 73, 3) := by decide +kernel
theorem dX11_draw_49 : decode cX11_draw 49 = .ok (.invokevirtual 312, 3) := by decide +kernel
theorem dX11_draw_52 : decode cX11_draw 52 = .ok (.iload_n 1, 1) := by decide +kernel
theorem dX11_draw_53 : decode cX11_draw 53 = .ok (.iconst 1, 1) := by decide +kernel
theorem dX11_draw_54 : decode cX11_draw 54 = .ok (.if_icmp .ne 14, 3) := by decide +kernel
theorem dX11_draw_57 : decode cX11_draw 57 = .ok (.aload_n 0, 1) := by decide +kernel
theorem dX11_draw_58 : decode cX11_draw 58 = .ok (.getfield 73, 3) := by decide +kernel
theorem dX11_draw_61 : decode cX11_draw 61 = .ok (.iconst 0, 1) := by decide +kernel
theorem dX11_draw_62 : decode cX11_draw 62 = .ok (.dup2, 1) := by decide +kernel
theorem dX11_draw_63 : decode cX11_draw 63 = .ok (.baload, 1) := by decide +kernel
theorem dX11_draw_64 : decode cX11_draw 64 = .ok (.iconst 1, 1) := by decide +kernel
theorem dX11_draw_65 : decode cX11_draw 65 = .ok (.iadd, 1) := by decide +kernel
theorem dX11_draw_66 : decode cX11_draw 66 = .ok (.i2b, 1) := by decide +kernel
theorem dX11_draw_67 : decode cX11_draw 67 = .ok (.bastore, 1) := by decide +kernel
theorem dX11_draw_68 : decode cX11_draw 68 = .ok (.aload_n 0, 1) := by decide +kernel
theorem dX11_draw_69 : decode cX11_draw 69 = .ok (.getfield 18, 3) := by decide +kernel
theorem dX11_draw_72 : decode cX11_draw 72 = .ok (.invokevirtual 108, 3) := by decide +kernel
theorem dX11_draw_75 : decode cX11_draw 75 = .ok (.aload_n 0, 1) := by decide +kernel
theorem dX11_draw_76 : decode cX11_draw 76 = .ok (.getfield 18, 3) := by decide +kernel
theorem dX11_draw_79 : decode cX11_draw 79 = .ok (.iload_n 1, 1) := by decide +kernel
theorem dX11_draw_80 : decode cX11_draw 80 = .ok (.iconst 4, 1) := by decide +kernel
theorem dX11_draw_81 : decode cX11_draw 81 = .ok (.if_icmp .ne 9, 3) := by decide +kernel
theorem dX11_draw_84 : decode cX11_draw 84 = .ok (.ldc2_w 316, 3) := by decide +kernel
theorem dX11_draw_87 : decode cX11_draw 87 = .ok (.goto 4, 3) := by decide +kernel
theorem dX11_draw_90 : decode cX11_draw 90 = .ok (.lconst 1, 1) := by decide +kernel
theorem dX11_draw_91 : decode cX11_draw 91 = .ok (.iconst 4, 1) := by decide +kernel
theorem dX11_draw_92 : decode cX11_draw 92 = .ok (.invokevirtual 298, 3) := by decide +kernel
theorem dX11_draw_95 : decode cX11_draw 95 = .ok (.aload_n 0, 1) := by decide +kernel
theorem dX11_draw_96 : decode cX11_draw 96 = .ok (.getfield 18, 3) := by decide +kernel
theorem dX11_draw_99 : decode cX11_draw 99 = .ok (.iload_n 1, 1) := by decide +kernel
theorem dX11_draw_100 : decode cX11_draw 100 = .ok (.iconst 5, 1) := by decide +kernel
theorem dX11_draw_101 : decode cX11_draw 101 = .ok (.if_icmp .ne 10, 3) := by decide +kernel
theorem dX11_draw_104 : decode cX11_draw 104 = .ok (.aload_n 0, 1) := by decide +kernel
theorem dX11_draw_105 : decode cX11_draw 105 = .ok (.getfield 76, 3) := by decide +kernel
theorem dX11_draw_108 : decode cX11_draw 108 = .ok (.goto 4, 3) := by decide +kernel
theorem dX11_draw_111 : decode cX11_draw 111 = .ok (.aload_n 2, 1) := by decide +kernel
theorem dX11_draw_112 : decode cX11_draw 112 = .ok (.iconst 0, 1) := by decide +kernel
theorem dX11_draw_113 : decode cX11_draw 113 = .ok (.bipush 32, 2) := by decide +kernel
theorem dX11_draw_115 : decode cX11_draw 115 = .ok (.invokevirtual 119, 3) := by decide +kernel
theorem dX11_draw_118 : decode cX11_draw 118 = .ok (.aload_n 0, 1) := by decide +kernel
theorem dX11_draw_119 : decode cX11_draw 119 = .ok (.getfield 18, 3) := by decide +kernel
theorem dX11_draw_122 : decode cX11_draw 122 = .ok (.aload_n 0, 1) := by decide +kernel
theorem dX11_draw_123 : decode cX11_draw 123 = .ok (.getfield 73, 3) := by decide +kernel
theorem dX11_draw_126 : decode cX11_draw 126 = .ok (.iconst 0, 1) := by decide +kernel
theorem dX11_draw_127 : decode cX11_draw 127 = .ok (.bipush 32, 2) := by decide +kernel
theorem dX11_draw_129 : decode cX11_draw 129 = .ok (.invokevirtual 119, 3) := by decide +kernel
theorem dX11_draw_132 : decode cX11_draw 132 = .ok (.aload_n 0, 1) := by decide +kernel
theorem dX11_draw_133 : decode cX11_draw 133 = .ok (.getfield 18, 3) := by decide +kernel
theorem dX11_draw_136 : decode cX11_draw 136 = .ok (.aload_n 0, 1) := by decide +kernel
theorem dX11_draw_137 : decode cX11_draw 137 = .ok (.getfield 89, 3) := by decide +kernel
theorem dX11_draw_140 : decode cX11_draw 140 = .ok (.iconst 4, 1) := by decide +kernel
theorem dX11_draw_141 : decode cX11_draw 141 = .ok (.invokevirtual 298, 3) := by decide +kernel
theorem dX11_draw_144 : decode cX11_draw 144 = .ok (.aload_n 0, 1) := by decide +kernel
theorem dX11_draw_145 : decode cX11_draw 145 = .ok (.getfield 18, 3) := by decide +kernel
theorem dX11_draw_148 : decode cX11_draw 148 = .ok (.iload_n 1, 1) := by decide +kernel
theorem dX11_draw_149 : decode cX11_draw 149 = .ok (.iconst 2, 1) := by decide +kernel
theorem dX11_draw_150 : decode cX11_draw 150 = .ok (.if_icmp .ne 10, 3) := by decide +kernel
theorem dX11_draw_153 : decode cX11_draw 153 = .ok (.iload_n 3, 1) := by decide +kernel
theorem dX11_draw_154 : decode cX11_draw 154 = .ok (.iconst 1, 1) := by decide +kernel
theorem dX11_draw_155 : decode cX11_draw 155 = .ok (.isub, 1) := by decide +kernel
theorem dX11_draw_156 : decode cX11_draw 156 = .ok (.i2l, 1) := by decide +kernel
theorem dX11_draw_157 : decode cX11_draw 157 = .ok (.goto 5, 3) := by decide +kernel
theorem dX11_draw_160 : decode cX11_draw 160 = .ok (.iload_n 3, 1) := by decide +kernel
theorem dX11_draw_161 : decode cX11_draw 161 = .ok (.i2l, 1) := by decide +kernel
theorem dX11_draw_162 : decode cX11_draw 162 = .ok (.iconst 4, 1) := by decide +kernel
theorem dX11_draw_163 : decode cX11_draw 163 = .ok (.invokevirtual 298, 3) := by decide +kernel
theorem dX11_draw_166 : decode cX11_draw 166 = .ok (.aload_n 0, 1) := by decide +kernel
theorem dX11_draw_167 : decode cX11_draw 167 = .ok (.getfield 18, 3) := by decide +kernel
theorem dX11_draw_170 : decode cX11_draw 170 = .ok (.lconst 0, 1) := by decide +kernel
theorem dX11_draw_171 : decode cX11_draw 171 = .ok (.iconst 4, 1) := by decide +kernel
theorem dX11_draw_172 : decode cX11_draw 172 = .ok (.invokevirtual 298, 3) := by decide +kernel
theorem dX11_draw_175 : decode cX11_draw 175 = .ok (.aload_n 0, 1) := by decide +kernel
theorem dX11_draw_176 : decode cX11_draw 176 = .ok (.getfield 18, 3) := by decide +kernel
theorem dX11_draw_179 : decode cX11_draw 179 = .ok (.aload_n 0, 1) := by decide +kernel
theorem dX11_draw_180 : decode cX11_draw 180 = .ok (.getfield 83, 3) := by decide +kernel
theorem dX11_draw_183 : decode cX11_draw 183 = .ok (.invokevirtual 318, 3) := by decide +kernel
theorem dX11_draw_186 : decode cX11_draw 186 = .ok (.iconst 0, 1) := by decide +kernel
theorem dX11_draw_187 : decode cX11_draw 187 = .ok (.istore 4, 2) := by decide +kernel
theorem dX11_draw_189 : decode cX11_draw 189 = .ok (.iload 4, 2) := by decide +kernel
theorem dX11_draw_191 : decode cX11_draw 191 = .ok (.aload_n 0, 1) := by decide +kernel
theorem dX11_draw_192 : decode cX11_draw 192 = .ok (.getfield 83, 3) := by decide +kernel
theorem dX11_draw_195 : decode cX11_draw 195 = .ok (.if_icmp .ge 52, 3) := by decide +kernel
theorem dX11_draw_198 : decode cX11_draw 198 = .ok (.aload_n 0, 1) := by decide +kernel
theorem dX11_draw_199 : decode cX11_draw 199 = .ok (.getfield 21, 3) := by decide +kernel
theorem dX11_draw_202 : decode cX11_draw 202 = .ok (.invokevirtual 108, 3) := by decide +kernel
theorem dX11_draw_205 : decode cX11_draw 205 = .ok (.aload_n 0, 1) := by decide +kernel
theorem dX11_draw_206 : decode cX11_draw 206 = .ok (.getfield 65, 3) := by decide +kernel
theorem dX11_draw_209 : decode cX11_draw 209 = .ok (.iload 4, 2) := by decide +kernel
theorem dX11_draw_211 : decode cX11_draw 211 = .ok (.aaload, 1) := by decide +kernel
theorem dX11_draw_212 : decode cX11_draw 212 = .ok (.aload_n 0, 1) := by decide +kernel
theorem dX11_draw_213 : decode cX11_draw 213 = .ok (.getfield 21, 3) := by decide +kernel
theorem dX11_draw_216 : decode cX11_draw 216 = .ok (.invokevirtual 193, 3) := by decide +kernel
theorem dX11_draw_219 : decode cX11_draw 219 = .ok (.aload_n 0, 1) := by decide +kernel
theorem dX11_draw_220 : decode cX11_draw 220 = .ok (.getfield 18, 3) := by decide +kernel
theorem dX11_draw_223 : decode cX11_draw 223 = .ok (.aload_n 0, 1) := by decide +kernel
theorem dX11_draw_224 : decode cX11_draw 224 = .ok (.getfield 21, 3) := by decide +kernel
theorem dX11_draw_227 : decode cX11_draw 227 = .ok (.getfield 105, 3) := by decide +kernel
theorem dX11_draw_230 : decode cX11_draw 230 = .ok (.iconst 0, 1) := by decide +kernel
theorem dX11_draw_231 : decode cX11_draw 231 = .ok (.aload_n 0, 1) := by decide +kernel
theorem dX11_draw_232 : decode cX11_draw 232 = .ok (.getfield 21, 3) := by decide +kernel
theorem dX11_draw_235 : decode cX11_draw 235 = .ok (.getfield 93, 3) := by decide +kernel
theorem dX11_draw_238 : decode cX11_draw 238 = .ok (.invokevirtual 119, 3) := by decide +kernel
theorem dX11_draw_241 : decode cX11_draw 241 = .ok (.iinc 4 1, 3) := by decide +kernel
theorem dX11_draw_244 : decode cX11_draw 244 = .ok (.goto (-55), 3) := by decide +kernel
theorem dX11_draw_247 : decode cX11_draw 247 = .ok (.return_, 1) := by decide +kernel
abbrev mX11_findNonce : ks_M := (RX11, cX11_findNonce, 5, none, "findNonce")
theorem dX11_findNonce_0 : decode cX11_findNonce 0 = .ok (.aload_n 0, 1) := by decide +kernel
theorem dX11_findNonce_1 : decode cX11_findNonce 1 = .ok (.getfield 59, 3) := by decide +kernel
theorem dX11_findNonce_4 : decode cX11_findNonce 4 = .ok (.getfield 321, 3) := by decide +kernel
theorem dX11_findNonce_7 : decode cX11_findNonce 7 = .ok (.astore_n 3, 1) := by decide +kernel
theorem dX11_findNonce_8 : decode cX11_findNonce 8 = .ok (.aload_n 3, 1) := by decide +kernel
theorem dX11_findNonce_9 : decode cX11_findNonce 9 = .ok (.iload_n 1, 1) := by decide +kernel
theorem dX11_findNonce_10 : decode cX11_findNonce 10 = .ok (.invokevirtual 325, 3) := by decide +kernel
theorem dX11_findNonce_13 : decode cX11_findNonce 13 = .ok (.pop, 1) := by decide +kernel
theorem dX11_findNonce_14 : decode cX11_findNonce 14 = .ok (.iconst 0, 1) := by decide +kernel
theorem dX11_findNonce_15 : decode cX11_findNonce 15 = .ok (.istore 4, 2) := by decide +kernel
theorem dX11_findNonce_17 : decode cX11_findNonce 17 = .ok (.iload 4, 2) := by decide +kernel
theorem dX11_findNonce_19 : decode cX11_findNonce 19 = .ok (.sipush 4096, 3) := by decide +kernel
theorem dX11_findNonce_22 : decode cX11_findNonce 22 = .ok (.if_icmp .ge 73, 3) := by decide +kernel
theorem dX11_findNonce_25 : decode cX11_findNonce 25 = .ok (.aload_n 0, 1) := by decide +kernel
theorem dX11_findNonce_26 : decode cX11_findNonce 26 = .ok (.getfield 18, 3) := by decide +kernel
theorem dX11_findNonce_29 : decode cX11_findNonce 29 = .ok (.getfield 105, 3) := by decide +kernel
theorem dX11_findNonce_32 : decode cX11_findNonce 32 = .ok (.bipush 76, 2) := by decide +kernel
theorem dX11_findNonce_34 : decode cX11_findNonce 34 = .ok (.iload 4, 2) := by decide +kernel
theorem dX11_findNonce_36 : decode cX11_findNonce 36 = .ok (.i2b, 1) := by decide +kernel
theorem dX11_findNonce_37 : decode cX11_findNonce 37 = .ok (.bastore, 1) := by decide +kernel
theorem dX11_findNonce_38 : decode cX11_findNonce 38 = .ok (.aload_n 0, 1) := by decide +kernel
theorem dX11_findNonce_39 : decode cX11_findNonce 39 = .ok (.getfield 18, 3) := by decide +kernel
theorem dX11_findNonce_42 : decode cX11_findNonce 42 = .ok (.getfield 105, 3) := by decide +kernel
theorem dX11_findNonce_45 : decode cX11_findNonce 45 = .ok (.bipush 77, 2) := by decide +kernel
theorem dX11_findNonce_47 : decode cX11_findNonce 47 = .ok (.iload 4, 2) := by decide +kernel
theorem dX11_findNonce_49 : decode cX11_findNonce 49 = .ok (.bipush 8, 2) := by decide +kernel
theorem dX11_findNonce_51 : decode cX11_findNonce 51 = .ok (.iushr, 1) := by decide +kernel
theorem dX11_findNonce_52 : decode cX11_findNonce 52 = .ok (.i2b, 1) := by decide +kernel
theorem dX11_findNonce_53 : decode cX11_findNonce 53 = .ok (.bastore, 1) := by decide +kernel
theorem dX11_findNonce_54 : decode cX11_findNonce 54 = .ok (.aload_n 0, 1) := by decide +kernel
theorem dX11_findNonce_55 : decode cX11_findNonce 55 = .ok (.getfield 27, 3) := by decide +kernel
theorem dX11_findNonce_58 : decode cX11_findNonce 58 = .ok (.aload_n 0, 1) := by decide +kernel
theorem dX11_findNonce_59 : decode cX11_findNonce 59 = .ok (.getfield 18, 3) := by decide +kernel
theorem dX11_findNonce_62 : decode cX11_findNonce 62 = .ok (.getfield 105, 3) := by decide +kernel
theorem dX11_findNonce_65 : decode cX11_findNonce 65 = .ok (.iconst 0, 1) := by decide +kernel
theorem dX11_findNonce_66 : decode cX11_findNonce 66 = .ok (.bipush 80, 2) := by decide +kernel
theorem dX11_findNonce_68 : decode cX11_findNonce 68 = .ok (.aload_n 0, 1) := by decide +kernel
theorem dX11_findNonce_69 : decode cX11_findNonce 69 = .ok (.getfield 73, 3) := by decide +kernel
theorem dX11_findNonce_72 : decode cX11_findNonce 72 = .ok (.iconst 0, 1) := by decide +kernel
theorem dX11_findNonce_73 : decode cX11_findNonce 73 = .ok (.invokevirtual 129, 3) := by decide +kernel
theorem dX11_findNonce_76 : decode cX11_findNonce 76 = .ok (.aload_n 3, 1) := by decide +kernel
theorem dX11_findNonce_77 : decode cX11_findNonce 77 = .ok (.aload_n 0, 1) := by decide +kernel
theorem dX11_findNonce_78 : decode cX11_findNonce 78 = .ok (.getfield 73, 3) := by decide +kernel
theorem dX11_findNonce_81 : decode cX11_findNonce 81 = .ok (.invokevirtual 331, 3) := by decide +kernel
theorem dX11_findNonce_84 : decode cX11_findNonce 84 = .ok (.iload_n 2, 1) := by decide +kernel
theorem dX11_findNonce_85 : decode cX11_findNonce 85 = .ok (.if_icmp .ne 4, 3) := by decide +kernel
theorem dX11_findNonce_88 : decode cX11_findNonce 88 = .ok (.return_, 1) := by decide +kernel
theorem dX11_findNonce_89 : decode cX11_findNonce 89 = .ok (.iinc 4 1, 3) := by decide +kernel
theorem dX11_findNonce_92 : decode cX11_findNonce 92 = .ok (.goto (-75), 3) := by decide +kernel
theorem dX11_findNonce_95 : decode cX11_findNonce 95 = .ok (.return_, 1) := by decide +kernel
theorem kx_1 : (Jvm.Cond.initialized "CoinJudge") ∈ lw_tbl := List.mem_append_right _ (List.mem_of_getElem? (i := 1) (by decide +kernel))
theorem kx_21 : (Jvm.Cond.initialized "java/lang/IndexOutOfBoundsException") ∈ lw_tbl := List.mem_append_right _ (List.mem_of_getElem? (i := 21) (by decide +kernel))
theorem kx_26 : (Jvm.Cond.initialized "CoinJudge$Chain") ∈ lw_tbl := List.mem_append_right _ (List.mem_of_getElem? (i := 26) (by decide +kernel))
theorem kx_29 : (Jvm.Cond.initialized "CoinJudge$Block") ∈ lw_tbl := List.mem_append_right _ (List.mem_of_getElem? (i := 29) (by decide +kernel))
theorem kx_35 : (Jvm.Cond.initialized "java/lang/IllegalStateException") ∈ lw_tbl := List.mem_append_right _ (List.mem_of_getElem? (i := 35) (by decide +kernel))
theorem kx_36 : (Jvm.Cond.initialized "java/lang/UnsupportedOperationException") ∈ lw_tbl := List.mem_append_right _ (List.mem_of_getElem? (i := 36) (by decide +kernel))
theorem kx_41 : (Jvm.Cond.code ({ cls := "CoinJudge", name := "<init>", desc := "()V" } : Jvm.MethodName) prog_1_method_1_code (2 : Nat) (Option.none : Option Jvm.ClassFile.FieldType)) ∈ lw_tbl := List.mem_append_right _ (List.mem_of_getElem? (i := 41) (by decide +kernel))
theorem kx_42 : (Jvm.Cond.methodLink "CoinJudge" (1 : Nat) ({ cls := "java/lang/Object", name := "<init>", desc := "()V" } : Jvm.MethodName)) ∈ lw_tbl := List.mem_append_right _ (List.mem_of_getElem? (i := 42) (by decide +kernel))
theorem kx_45 : (Jvm.Cond.classLink "CoinJudge" (7 : Nat) "CoinJudge$Buffer") ∈ lw_tbl := List.mem_append_right _ (List.mem_of_getElem? (i := 45) (by decide +kernel))
theorem kx_47 : (Jvm.Cond.methodLink "CoinJudge" (11 : Nat) ({ cls := "CoinJudge$Buffer", name := "<init>", desc := "(I)V" } : Jvm.MethodName)) ∈ lw_tbl := List.mem_append_right _ (List.mem_of_getElem? (i := 47) (by decide +kernel))
theorem kx_54 : (Jvm.Cond.fieldLink "CoinJudge" (105 : Nat) "CoinJudge$Buffer" "bytes" "[B") ∈ lw_tbl := List.mem_append_right _ (List.mem_of_getElem? (i := 54) (by decide +kernel))
theorem kx_59 : (Jvm.Cond.fieldLink "CoinJudge" (93 : Nat) "CoinJudge$Buffer" "length" "I") ∈ lw_tbl := List.mem_append_right _ (List.mem_of_getElem? (i := 59) (by decide +kernel))
theorem kx_66 : (Jvm.Cond.fieldLink "CoinJudge" (225 : Nat) "CoinJudge$Buffer" "over" "Z") ∈ lw_tbl := List.mem_append_right _ (List.mem_of_getElem? (i := 66) (by decide +kernel))
theorem kx_75 : (Jvm.Cond.classLink "CoinJudge" (24 : Nat) "CoinJudge$Hasher") ∈ lw_tbl := List.mem_append_right _ (List.mem_of_getElem? (i := 75) (by decide +kernel))
theorem kx_76 : (Jvm.Cond.instantiable "CoinJudge$Hasher" (6 : Nat)) ∈ lw_tbl := List.mem_append_right _ (List.mem_of_getElem? (i := 76) (by decide +kernel))
theorem kx_77 : (Jvm.Cond.methodLinkNest "CoinJudge" (26 : Nat) ({ cls := "CoinJudge$Hasher", name := "<init>", desc := "()V" } : Jvm.MethodName) "CoinJudge") ∈ lw_tbl := List.mem_append_right _ (List.mem_of_getElem? (i := 77) (by decide +kernel))
theorem kx_78 : (Jvm.Cond.instanceMethod ({ cls := "CoinJudge$Hasher", name := "<init>", desc := "()V" } : Jvm.MethodName)) ∈ lw_tbl := List.mem_append_right _ (List.mem_of_getElem? (i := 78) (by decide +kernel))
theorem kx_101 : (Jvm.Cond.classLink "CoinJudge" (31 : Nat) "CoinJudge$Curve") ∈ lw_tbl := List.mem_append_right _ (List.mem_of_getElem? (i := 101) (by decide +kernel))
theorem kx_102 : (Jvm.Cond.instantiable "CoinJudge$Curve" (4 : Nat)) ∈ lw_tbl := List.mem_append_right _ (List.mem_of_getElem? (i := 102) (by decide +kernel))
theorem kx_103 : (Jvm.Cond.methodLink "CoinJudge" (33 : Nat) ({ cls := "CoinJudge$Curve", name := "<init>", desc := "()V" } : Jvm.MethodName)) ∈ lw_tbl := List.mem_append_right _ (List.mem_of_getElem? (i := 103) (by decide +kernel))
theorem kx_104 : (Jvm.Cond.instanceMethod ({ cls := "CoinJudge$Curve", name := "<init>", desc := "()V" } : Jvm.MethodName)) ∈ lw_tbl := List.mem_append_right _ (List.mem_of_getElem? (i := 104) (by decide +kernel))
theorem kx_548 : (Jvm.Cond.classLink "CoinJudge" (38 : Nat) "CoinJudge$TxView") ∈ lw_tbl := List.mem_append_right _ (List.mem_of_getElem? (i := 548) (by decide +kernel))
theorem kx_549 : (Jvm.Cond.instantiable "CoinJudge$TxView" (11 : Nat)) ∈ lw_tbl := List.mem_append_right _ (List.mem_of_getElem? (i := 549) (by decide +kernel))
theorem kx_550 : (Jvm.Cond.methodLinkNest "CoinJudge" (40 : Nat) ({ cls := "CoinJudge$TxView", name := "<init>", desc := "()V" } : Jvm.MethodName) "CoinJudge") ∈ lw_tbl := List.mem_append_right _ (List.mem_of_getElem? (i := 550) (by decide +kernel))
theorem kx_551 : (Jvm.Cond.instanceMethod ({ cls := "CoinJudge$TxView", name := "<init>", desc := "()V" } : Jvm.MethodName)) ∈ lw_tbl := List.mem_append_right _ (List.mem_of_getElem? (i := 551) (by decide +kernel))
theorem kx_556 : (Jvm.Cond.fieldLink "CoinJudge$Chain" (246 : Nat) "CoinJudge$TxView" "bytes" "[B") ∈ lw_tbl := List.mem_append_right _ (List.mem_of_getElem? (i := 556) (by decide +kernel))
theorem kx_558 : (Jvm.Cond.fieldLink "CoinJudge$Chain" (151 : Nat) "CoinJudge$TxView" "inputs" "I") ∈ lw_tbl := List.mem_append_right _ (List.mem_of_getElem? (i := 558) (by decide +kernel))
theorem kx_560 : (Jvm.Cond.fieldLink "CoinJudge$Chain" (258 : Nat) "CoinJudge$TxView" "outputs" "I") ∈ lw_tbl := List.mem_append_right _ (List.mem_of_getElem? (i := 560) (by decide +kernel))
theorem kx_562 : (Jvm.Cond.fieldLink "CoinJudge$Chain" (243 : Nat) "CoinJudge$TxView" "inputAt" "[I") ∈ lw_tbl := List.mem_append_right _ (List.mem_of_getElem? (i := 562) (by decide +kernel))
theorem kx_568 : (Jvm.Cond.fieldLink "CoinJudge$Chain" (261 : Nat) "CoinJudge$TxView" "outputAt" "[I") ∈ lw_tbl := List.mem_append_right _ (List.mem_of_getElem? (i := 568) (by decide +kernel))
theorem kx_596 : (Jvm.Cond.classLink "CoinJudge" (45 : Nat) "CoinJudge$Machine") ∈ lw_tbl := List.mem_append_right _ (List.mem_of_getElem? (i := 596) (by decide +kernel))
theorem kx_597 : (Jvm.Cond.instantiable "CoinJudge$Machine" (20 : Nat)) ∈ lw_tbl := List.mem_append_right _ (List.mem_of_getElem? (i := 597) (by decide +kernel))
theorem kx_598 : (Jvm.Cond.methodLink "CoinJudge" (47 : Nat) ({ cls := "CoinJudge$Machine", name := "<init>", desc := "(LCoinJudge$Hasher;LCoinJudge$Curve;)V" } : Jvm.MethodName)) ∈ lw_tbl := List.mem_append_right _ (List.mem_of_getElem? (i := 598) (by decide +kernel))
theorem kx_599 : (Jvm.Cond.instanceMethod ({ cls := "CoinJudge$Machine", name := "<init>", desc := "(LCoinJudge$Hasher;LCoinJudge$Curve;)V" } : Jvm.MethodName)) ∈ lw_tbl := List.mem_append_right _ (List.mem_of_getElem? (i := 599) (by decide +kernel))
theorem kx_643 : (Jvm.Cond.fieldLink "CoinJudge" (209 : Nat) "CoinJudge$Machine" "signed" "[B") ∈ lw_tbl := List.mem_append_right _ (List.mem_of_getElem? (i := 643) (by decide +kernel))
theorem kx_705 : (Jvm.Cond.classLink "CoinJudge" (54 : Nat) "CoinJudge$Chain") ∈ lw_tbl := List.mem_append_right _ (List.mem_of_getElem? (i := 705) (by decide +kernel))
theorem kx_706 : (Jvm.Cond.instantiable "CoinJudge$Chain" (14 : Nat)) ∈ lw_tbl := List.mem_append_right _ (List.mem_of_getElem? (i := 706) (by decide +kernel))
theorem kx_707 : (Jvm.Cond.methodLink "CoinJudge" (56 : Nat) ({ cls := "CoinJudge$Chain", name := "<init>", desc := "(LCoinJudge$Hasher;LCoinJudge$Machine;LCoinJudge$TxView;)V" } : Jvm.MethodName)) ∈ lw_tbl := List.mem_append_right _ (List.mem_of_getElem? (i := 707) (by decide +kernel))
theorem kx_708 : (Jvm.Cond.instanceMethod ({ cls := "CoinJudge$Chain", name := "<init>", desc := "(LCoinJudge$Hasher;LCoinJudge$Machine;LCoinJudge$TxView;)V" } : Jvm.MethodName)) ∈ lw_tbl := List.mem_append_right _ (List.mem_of_getElem? (i := 708) (by decide +kernel))
theorem kx_709 : (Jvm.Cond.code ({ cls := "CoinJudge$Chain", name := "<init>", desc := "(LCoinJudge$Hasher;LCoinJudge$Machine;LCoinJudge$TxView;)V" } : Jvm.MethodName) prog_4_method_1_code (4 : Nat) (Option.none : Option Jvm.ClassFile.FieldType)) ∈ lw_tbl := List.mem_append_right _ (List.mem_of_getElem? (i := 709) (by decide +kernel))
theorem kx_710 : (Jvm.Cond.methodLink "CoinJudge$Chain" (5 : Nat) ({ cls := "java/lang/Object", name := "<init>", desc := "()V" } : Jvm.MethodName)) ∈ lw_tbl := List.mem_append_right _ (List.mem_of_getElem? (i := 710) (by decide +kernel))
theorem kx_711 : (Jvm.Cond.classLink "CoinJudge$Chain" (11 : Nat) "CoinJudge$Block") ∈ lw_tbl := List.mem_append_right _ (List.mem_of_getElem? (i := 711) (by decide +kernel))
theorem kx_713 : (Jvm.Cond.classLink "CoinJudge$Chain" (21 : Nat) "CoinJudge$Target") ∈ lw_tbl := List.mem_append_right _ (List.mem_of_getElem? (i := 713) (by decide +kernel))
theorem kx_714 : (Jvm.Cond.instantiable "CoinJudge$Target" (3 : Nat)) ∈ lw_tbl := List.mem_append_right _ (List.mem_of_getElem? (i := 714) (by decide +kernel))
theorem kx_715 : (Jvm.Cond.methodLinkNest "CoinJudge$Chain" (23 : Nat) ({ cls := "CoinJudge$Target", name := "<init>", desc := "()V" } : Jvm.MethodName) "CoinJudge") ∈ lw_tbl := List.mem_append_right _ (List.mem_of_getElem? (i := 715) (by decide +kernel))
theorem kx_716 : (Jvm.Cond.instanceMethod ({ cls := "CoinJudge$Target", name := "<init>", desc := "()V" } : Jvm.MethodName)) ∈ lw_tbl := List.mem_append_right _ (List.mem_of_getElem? (i := 716) (by decide +kernel))
theorem kx_729 : (Jvm.Cond.fieldLink "CoinJudge$Chain" (13 : Nat) "CoinJudge$Chain" "blocks" "[LCoinJudge$Block;") ∈ lw_tbl := List.mem_append_right _ (List.mem_of_getElem? (i := 729) (by decide +kernel))
theorem kx_730 : (Jvm.Cond.fieldLink "CoinJudge" (167 : Nat) "CoinJudge$Chain" "blocks" "[LCoinJudge$Block;") ∈ lw_tbl := List.mem_append_right _ (List.mem_of_getElem? (i := 730) (by decide +kernel))
theorem kx_731 : (Jvm.Cond.fieldLink "CoinJudge$Chain" (17 : Nat) "CoinJudge$Chain" "path" "[I") ∈ lw_tbl := List.mem_append_right _ (List.mem_of_getElem? (i := 731) (by decide +kernel))
theorem kx_732 : (Jvm.Cond.fieldLink "CoinJudge" (253 : Nat) "CoinJudge$Chain" "path" "[I") ∈ lw_tbl := List.mem_append_right _ (List.mem_of_getElem? (i := 732) (by decide +kernel))
theorem kx_733 : (Jvm.Cond.fieldLink "CoinJudge$Chain" (24 : Nat) "CoinJudge$Chain" "target" "LCoinJudge$Target;") ∈ lw_tbl := List.mem_append_right _ (List.mem_of_getElem? (i := 733) (by decide +kernel))
theorem kx_734 : (Jvm.Cond.fieldLink "CoinJudge" (321 : Nat) "CoinJudge$Chain" "target" "LCoinJudge$Target;") ∈ lw_tbl := List.mem_append_right _ (List.mem_of_getElem? (i := 734) (by decide +kernel))
theorem kx_735 : (Jvm.Cond.fieldLink "CoinJudge$Chain" (78 : Nat) "CoinJudge$Chain" "kept" "I") ∈ lw_tbl := List.mem_append_right _ (List.mem_of_getElem? (i := 735) (by decide +kernel))
theorem kx_736 : (Jvm.Cond.fieldLink "CoinJudge" (132 : Nat) "CoinJudge$Chain" "kept" "I") ∈ lw_tbl := List.mem_append_right _ (List.mem_of_getElem? (i := 736) (by decide +kernel))
theorem kx_737 : (Jvm.Cond.fieldLink "CoinJudge" (139 : Nat) "CoinJudge$Chain" "best" "I") ∈ lw_tbl := List.mem_append_right _ (List.mem_of_getElem? (i := 737) (by decide +kernel))
theorem kx_738 : (Jvm.Cond.fieldLink "CoinJudge$Chain" (178 : Nat) "CoinJudge$Chain" "best" "I") ∈ lw_tbl := List.mem_append_right _ (List.mem_of_getElem? (i := 738) (by decide +kernel))
theorem kx_739 : (Jvm.Cond.fieldLink "CoinJudge$Chain" (42 : Nat) "CoinJudge$Chain" "hasher" "LCoinJudge$Hasher;") ∈ lw_tbl := List.mem_append_right _ (List.mem_of_getElem? (i := 739) (by decide +kernel))
theorem kx_740 : (Jvm.Cond.fieldLink "CoinJudge$Chain" (46 : Nat) "CoinJudge$Chain" "machine" "LCoinJudge$Machine;") ∈ lw_tbl := List.mem_append_right _ (List.mem_of_getElem? (i := 740) (by decide +kernel))
theorem kx_741 : (Jvm.Cond.fieldLink "CoinJudge$Chain" (50 : Nat) "CoinJudge$Chain" "view" "LCoinJudge$TxView;") ∈ lw_tbl := List.mem_append_right _ (List.mem_of_getElem? (i := 741) (by decide +kernel))
theorem kx_742 : (Jvm.Cond.fieldLink "CoinJudge$Chain" (28 : Nat) "CoinJudge$Chain" "times" "[J") ∈ lw_tbl := List.mem_append_right _ (List.mem_of_getElem? (i := 742) (by decide +kernel))
theorem kx_743 : (Jvm.Cond.fieldLink "CoinJudge$Chain" (32 : Nat) "CoinJudge$Chain" "root" "[B") ∈ lw_tbl := List.mem_append_right _ (List.mem_of_getElem? (i := 743) (by decide +kernel))
theorem kx_744 : (Jvm.Cond.fieldLink "CoinJudge$Chain" (36 : Nat) "CoinJudge$Chain" "coinRow" "[I") ∈ lw_tbl := List.mem_append_right _ (List.mem_of_getElem? (i := 744) (by decide +kernel))
theorem kx_745 : (Jvm.Cond.fieldLink "CoinJudge$Chain" (39 : Nat) "CoinJudge$Chain" "found" "[I") ∈ lw_tbl := List.mem_append_right _ (List.mem_of_getElem? (i := 745) (by decide +kernel))
theorem kx_746 : (Jvm.Cond.fieldLink "CoinJudge$Chain" (86 : Nat) "CoinJudge$Chain" "coinCount" "I") ∈ lw_tbl := List.mem_append_right _ (List.mem_of_getElem? (i := 746) (by decide +kernel))
theorem kx_747 : (Jvm.Cond.fieldLink "CoinJudge$Chain" (148 : Nat) "CoinJudge$Chain" "taken" "J") ∈ lw_tbl := List.mem_append_right _ (List.mem_of_getElem? (i := 747) (by decide +kernel))
theorem kx_777 : (Jvm.Cond.classLink "CoinJudge" (63 : Nat) "CoinJudge$DraftTx") ∈ lw_tbl := List.mem_append_right _ (List.mem_of_getElem? (i := 777) (by decide +kernel))
theorem kx_779 : (Jvm.Cond.instantiable "CoinJudge$DraftTx" (10 : Nat)) ∈ lw_tbl := List.mem_append_right _ (List.mem_of_getElem? (i := 779) (by decide +kernel))
theorem kx_780 : (Jvm.Cond.methodLinkNest "CoinJudge" (79 : Nat) ({ cls := "CoinJudge$DraftTx", name := "<init>", desc := "()V" } : Jvm.MethodName) "CoinJudge") ∈ lw_tbl := List.mem_append_right _ (List.mem_of_getElem? (i := 780) (by decide +kernel))
theorem kx_781 : (Jvm.Cond.instanceMethod ({ cls := "CoinJudge$DraftTx", name := "<init>", desc := "()V" } : Jvm.MethodName)) ∈ lw_tbl := List.mem_append_right _ (List.mem_of_getElem? (i := 781) (by decide +kernel))
theorem kx_787 : (Jvm.Cond.fieldLink "CoinJudge" (156 : Nat) "CoinJudge$DraftTx" "inputs" "I") ∈ lw_tbl := List.mem_append_right _ (List.mem_of_getElem? (i := 787) (by decide +kernel))
theorem kx_789 : (Jvm.Cond.fieldLink "CoinJudge" (174 : Nat) "CoinJudge$DraftTx" "outputs" "I") ∈ lw_tbl := List.mem_append_right _ (List.mem_of_getElem? (i := 789) (by decide +kernel))
theorem kx_791 : (Jvm.Cond.fieldLink "CoinJudge" (181 : Nat) "CoinJudge$DraftTx" "size" "[I") ∈ lw_tbl := List.mem_append_right _ (List.mem_of_getElem? (i := 791) (by decide +kernel))
theorem kx_820 : (Jvm.Cond.methodLink "CoinJudge" (80 : Nat) ({ cls := "CoinJudge", name := "keepFirstBlock", desc := "()V" } : Jvm.MethodName)) ∈ lw_tbl := List.mem_append_right _ (List.mem_of_getElem? (i := 820) (by decide +kernel))
theorem kx_822 : (Jvm.Cond.instanceMethod ({ cls := "CoinJudge", name := "keepFirstBlock", desc := "()V" } : Jvm.MethodName)) ∈ lw_tbl := List.mem_append_right _ (List.mem_of_getElem? (i := 822) (by decide +kernel))
theorem kx_823 : (Jvm.Cond.code ({ cls := "CoinJudge", name := "keepFirstBlock", desc := "()V" } : Jvm.MethodName) prog_1_method_23_code (1 : Nat) (Option.none : Option Jvm.ClassFile.FieldType)) ∈ lw_tbl := List.mem_append_right _ (List.mem_of_getElem? (i := 823) (by decide +kernel))
theorem kx_824 : (Jvm.Cond.methodLink "CoinJudge" (145 : Nat) ({ cls := "CoinJudge$DraftTx", name := "begin", desc := "(JJ)V" } : Jvm.MethodName)) ∈ lw_tbl := List.mem_append_right _ (List.mem_of_getElem? (i := 824) (by decide +kernel))
theorem kx_825 : (Jvm.Cond.instanceMethod ({ cls := "CoinJudge$DraftTx", name := "begin", desc := "(JJ)V" } : Jvm.MethodName)) ∈ lw_tbl := List.mem_append_right _ (List.mem_of_getElem? (i := 825) (by decide +kernel))
theorem kx_826 : (Jvm.Cond.selects "CoinJudge$DraftTx" ({ cls := "CoinJudge$DraftTx", name := "begin", desc := "(JJ)V" } : Jvm.MethodName) ({ cls := "CoinJudge$DraftTx", name := "begin", desc := "(JJ)V" } : Jvm.MethodName)) ∈ lw_tbl := List.mem_append_right _ (List.mem_of_getElem? (i := 826) (by decide +kernel))
theorem kx_828 : (Jvm.Cond.methodLink "CoinJudge" (298 : Nat) ({ cls := "CoinJudge$Buffer", name := "addNumber", desc := "(JI)V" } : Jvm.MethodName)) ∈ lw_tbl := List.mem_append_right _ (List.mem_of_getElem? (i := 828) (by decide +kernel))
theorem kx_832 : (Jvm.Cond.constantLong "CoinJudge" (281 : Nat) (4294967295 : Int64)) ∈ lw_tbl := List.mem_append_right _ (List.mem_of_getElem? (i := 832) (by decide +kernel))
theorem kx_833 : (Jvm.Cond.methodLink "CoinJudge" (159 : Nat) ({ cls := "CoinJudge$DraftTx", name := "addInput", desc := "([BIIJLCoinJudge$Buffer;)V" } : Jvm.MethodName)) ∈ lw_tbl := List.mem_append_right _ (List.mem_of_getElem? (i := 833) (by decide +kernel))
theorem kx_834 : (Jvm.Cond.instanceMethod ({ cls := "CoinJudge$DraftTx", name := "addInput", desc := "([BIIJLCoinJudge$Buffer;)V" } : Jvm.MethodName)) ∈ lw_tbl := List.mem_append_right _ (List.mem_of_getElem? (i := 834) (by decide +kernel))
theorem kx_835 : (Jvm.Cond.selects "CoinJudge$DraftTx" ({ cls := "CoinJudge$DraftTx", name := "addInput", desc := "([BIIJLCoinJudge$Buffer;)V" } : Jvm.MethodName) ({ cls := "CoinJudge$DraftTx", name := "addInput", desc := "([BIIJLCoinJudge$Buffer;)V" } : Jvm.MethodName)) ∈ lw_tbl := List.mem_append_right _ (List.mem_of_getElem? (i := 835) (by decide +kernel))
theorem kx_842 : (Jvm.Cond.methodLink "CoinJudge" (108 : Nat) ({ cls := "CoinJudge$Buffer", name := "clear", desc := "()V" } : Jvm.MethodName)) ∈ lw_tbl := List.mem_append_right _ (List.mem_of_getElem? (i := 842) (by decide +kernel))
theorem kx_846 : (Jvm.Cond.constantLong "CoinJudge" (302 : Nat) (81 : Int64)) ∈ lw_tbl := List.mem_append_right _ (List.mem_of_getElem? (i := 846) (by decide +kernel))
theorem kx_847 : (Jvm.Cond.constantLong "CoinJudge" (304 : Nat) (5000000000 : Int64)) ∈ lw_tbl := List.mem_append_right _ (List.mem_of_getElem? (i := 847) (by decide +kernel))
theorem kx_848 : (Jvm.Cond.methodLink "CoinJudge" (177 : Nat) ({ cls := "CoinJudge$DraftTx", name := "addOutput", desc := "(JLCoinJudge$Buffer;)V" } : Jvm.MethodName)) ∈ lw_tbl := List.mem_append_right _ (List.mem_of_getElem? (i := 848) (by decide +kernel))
theorem kx_849 : (Jvm.Cond.instanceMethod ({ cls := "CoinJudge$DraftTx", name := "addOutput", desc := "(JLCoinJudge$Buffer;)V" } : Jvm.MethodName)) ∈ lw_tbl := List.mem_append_right _ (List.mem_of_getElem? (i := 849) (by decide +kernel))
theorem kx_850 : (Jvm.Cond.selects "CoinJudge$DraftTx" ({ cls := "CoinJudge$DraftTx", name := "addOutput", desc := "(JLCoinJudge$Buffer;)V" } : Jvm.MethodName) ({ cls := "CoinJudge$DraftTx", name := "addOutput", desc := "(JLCoinJudge$Buffer;)V" } : Jvm.MethodName)) ∈ lw_tbl := List.mem_append_right _ (List.mem_of_getElem? (i := 850) (by decide +kernel))
theorem kx_852 : (Jvm.Cond.constantLong "CoinJudge" (306 : Nat) (1000000 : Int64)) ∈ lw_tbl := List.mem_append_right _ (List.mem_of_getElem? (i := 852) (by decide +kernel))
theorem kx_853 : (Jvm.Cond.constant "CoinJudge" (308 : Nat) (545259519 : Int32)) ∈ lw_tbl := List.mem_append_right _ (List.mem_of_getElem? (i := 853) (by decide +kernel))
theorem kx_854 : (Jvm.Cond.methodLink "CoinJudge" (222 : Nat) ({ cls := "CoinJudge", name := "draw", desc := "(I[BI)V" } : Jvm.MethodName)) ∈ lw_tbl := List.mem_append_right _ (List.mem_of_getElem? (i := 854) (by decide +kernel))
theorem kx_856 : (Jvm.Cond.instanceMethod ({ cls := "CoinJudge", name := "draw", desc := "(I[BI)V" } : Jvm.MethodName)) ∈ lw_tbl := List.mem_append_right _ (List.mem_of_getElem? (i := 856) (by decide +kernel))
theorem kx_857 : (Jvm.Cond.code ({ cls := "CoinJudge", name := "draw", desc := "(I[BI)V" } : Jvm.MethodName) prog_1_method_24_code (5 : Nat) (Option.none : Option Jvm.ClassFile.FieldType)) ∈ lw_tbl := List.mem_append_right _ (List.mem_of_getElem? (i := 857) (by decide +kernel))
theorem kx_858 : (Jvm.Cond.methodLink "CoinJudge" (163 : Nat) ({ cls := "CoinJudge", name := "nameDraft", desc := "(I[BI)V" } : Jvm.MethodName)) ∈ lw_tbl := List.mem_append_right _ (List.mem_of_getElem? (i := 858) (by decide +kernel))
theorem kx_860 : (Jvm.Cond.instanceMethod ({ cls := "CoinJudge", name := "nameDraft", desc := "(I[BI)V" } : Jvm.MethodName)) ∈ lw_tbl := List.mem_append_right _ (List.mem_of_getElem? (i := 860) (by decide +kernel))
theorem kx_861 : (Jvm.Cond.code ({ cls := "CoinJudge", name := "nameDraft", desc := "(I[BI)V" } : Jvm.MethodName) prog_1_method_22_code (4 : Nat) (Option.none : Option Jvm.ClassFile.FieldType)) ∈ lw_tbl := List.mem_append_right _ (List.mem_of_getElem? (i := 861) (by decide +kernel))
theorem kx_862 : (Jvm.Cond.methodLink "CoinJudge" (193 : Nat) ({ cls := "CoinJudge$DraftTx", name := "write", desc := "(LCoinJudge$Buffer;)V" } : Jvm.MethodName)) ∈ lw_tbl := List.mem_append_right _ (List.mem_of_getElem? (i := 862) (by decide +kernel))
theorem kx_863 : (Jvm.Cond.instanceMethod ({ cls := "CoinJudge$DraftTx", name := "write", desc := "(LCoinJudge$Buffer;)V" } : Jvm.MethodName)) ∈ lw_tbl := List.mem_append_right _ (List.mem_of_getElem? (i := 863) (by decide +kernel))
theorem kx_864 : (Jvm.Cond.selects "CoinJudge$DraftTx" ({ cls := "CoinJudge$DraftTx", name := "write", desc := "(LCoinJudge$Buffer;)V" } : Jvm.MethodName) ({ cls := "CoinJudge$DraftTx", name := "write", desc := "(LCoinJudge$Buffer;)V" } : Jvm.MethodName)) ∈ lw_tbl := List.mem_append_right _ (List.mem_of_getElem? (i := 864) (by decide +kernel))
theorem kx_876 : (Jvm.Cond.methodLink "CoinJudge" (129 : Nat) ({ cls := "CoinJudge$Hasher", name := "twice", desc := "([BII[BI)V" } : Jvm.MethodName)) ∈ lw_tbl := List.mem_append_right _ (List.mem_of_getElem? (i := 876) (by decide +kernel))
theorem kx_904 : (Jvm.Cond.methodLink "CoinJudge" (312 : Nat) ({ cls := "CoinJudge$Hasher", name := "root", desc := "([BI[B)V" } : Jvm.MethodName)) ∈ lw_tbl := List.mem_append_right _ (List.mem_of_getElem? (i := 904) (by decide +kernel))
theorem kx_905 : (Jvm.Cond.instanceMethod ({ cls := "CoinJudge$Hasher", name := "root", desc := "([BI[B)V" } : Jvm.MethodName)) ∈ lw_tbl := List.mem_append_right _ (List.mem_of_getElem? (i := 905) (by decide +kernel))
theorem kx_906 : (Jvm.Cond.selects "CoinJudge$Hasher" ({ cls := "CoinJudge$Hasher", name := "root", desc := "([BI[B)V" } : Jvm.MethodName) ({ cls := "CoinJudge$Hasher", name := "root", desc := "([BI[B)V" } : Jvm.MethodName)) ∈ lw_tbl := List.mem_append_right _ (List.mem_of_getElem? (i := 906) (by decide +kernel))
theorem kx_909 : (Jvm.Cond.constantLong "CoinJudge" (316 : Nat) (2 : Int64)) ∈ lw_tbl := List.mem_append_right _ (List.mem_of_getElem? (i := 909) (by decide +kernel))
theorem kx_910 : (Jvm.Cond.methodLink "CoinJudge" (119 : Nat) ({ cls := "CoinJudge$Buffer", name := "addBytes", desc := "([BII)V" } : Jvm.MethodName)) ∈ lw_tbl := List.mem_append_right _ (List.mem_of_getElem? (i := 910) (by decide +kernel))
theorem kx_911 : (Jvm.Cond.methodLink "CoinJudge" (318 : Nat) ({ cls := "CoinJudge$Buffer", name := "addCount", desc := "(I)V" } : Jvm.MethodName)) ∈ lw_tbl := List.mem_append_right _ (List.mem_of_getElem? (i := 911) (by decide +kernel))
theorem kx_912 : (Jvm.Cond.methodLink "CoinJudge" (229 : Nat) ({ cls := "CoinJudge", name := "findNonce", desc := "(IZ)V" } : Jvm.MethodName)) ∈ lw_tbl := List.mem_append_right _ (List.mem_of_getElem? (i := 912) (by decide +kernel))
theorem kx_914 : (Jvm.Cond.instanceMethod ({ cls := "CoinJudge", name := "findNonce", desc := "(IZ)V" } : Jvm.MethodName)) ∈ lw_tbl := List.mem_append_right _ (List.mem_of_getElem? (i := 914) (by decide +kernel))
theorem kx_915 : (Jvm.Cond.code ({ cls := "CoinJudge", name := "findNonce", desc := "(IZ)V" } : Jvm.MethodName) prog_1_method_25_code (5 : Nat) (Option.none : Option Jvm.ClassFile.FieldType)) ∈ lw_tbl := List.mem_append_right _ (List.mem_of_getElem? (i := 915) (by decide +kernel))
theorem kx_916 : (Jvm.Cond.methodLink "CoinJudge" (325 : Nat) ({ cls := "CoinJudge$Target", name := "take", desc := "(I)Z" } : Jvm.MethodName)) ∈ lw_tbl := List.mem_append_right _ (List.mem_of_getElem? (i := 916) (by decide +kernel))
theorem kx_922 : (Jvm.Cond.methodLink "CoinJudge" (331 : Nat) ({ cls := "CoinJudge$Target", name := "isReachedBy", desc := "([B)Z" } : Jvm.MethodName)) ∈ lw_tbl := List.mem_append_right _ (List.mem_of_getElem? (i := 922) (by decide +kernel))
theorem kx_923 : (Jvm.Cond.instanceMethod ({ cls := "CoinJudge$Target", name := "isReachedBy", desc := "([B)Z" } : Jvm.MethodName)) ∈ lw_tbl := List.mem_append_right _ (List.mem_of_getElem? (i := 923) (by decide +kernel))
theorem kx_924 : (Jvm.Cond.selects "CoinJudge$Target" ({ cls := "CoinJudge$Target", name := "isReachedBy", desc := "([B)Z" } : Jvm.MethodName) ({ cls := "CoinJudge$Target", name := "isReachedBy", desc := "([B)Z" } : Jvm.MethodName)) ∈ lw_tbl := List.mem_append_right _ (List.mem_of_getElem? (i := 924) (by decide +kernel))
theorem kx_926 : (Jvm.Cond.methodLink "CoinJudge" (309 : Nat) ({ cls := "CoinJudge$Chain", name := "keepFirst", desc := "(LCoinJudge$Buffer;)V" } : Jvm.MethodName)) ∈ lw_tbl := List.mem_append_right _ (List.mem_of_getElem? (i := 926) (by decide +kernel))
theorem kx_927 : (Jvm.Cond.instanceMethod ({ cls := "CoinJudge$Chain", name := "keepFirst", desc := "(LCoinJudge$Buffer;)V" } : Jvm.MethodName)) ∈ lw_tbl := List.mem_append_right _ (List.mem_of_getElem? (i := 927) (by decide +kernel))
theorem kx_928 : (Jvm.Cond.selects "CoinJudge$Chain" ({ cls := "CoinJudge$Chain", name := "keepFirst", desc := "(LCoinJudge$Buffer;)V" } : Jvm.MethodName) ({ cls := "CoinJudge$Chain", name := "keepFirst", desc := "(LCoinJudge$Buffer;)V" } : Jvm.MethodName)) ∈ lw_tbl := List.mem_append_right _ (List.mem_of_getElem? (i := 928) (by decide +kernel))
theorem kx_929 : (Jvm.Cond.code ({ cls := "CoinJudge$Chain", name := "keepFirst", desc := "(LCoinJudge$Buffer;)V" } : Jvm.MethodName) prog_4_method_2_code (3 : Nat) (Option.none : Option Jvm.ClassFile.FieldType)) ∈ lw_tbl := List.mem_append_right _ (List.mem_of_getElem? (i := 929) (by decide +kernel))
theorem kx_930 : (Jvm.Cond.instantiable "CoinJudge$Block" (11 : Nat)) ∈ lw_tbl := List.mem_append_right _ (List.mem_of_getElem? (i := 930) (by decide +kernel))
theorem kx_931 : (Jvm.Cond.methodLinkNest "CoinJudge$Chain" (54 : Nat) ({ cls := "CoinJudge$Block", name := "<init>", desc := "()V" } : Jvm.MethodName) "CoinJudge") ∈ lw_tbl := List.mem_append_right _ (List.mem_of_getElem? (i := 931) (by decide +kernel))
theorem kx_932 : (Jvm.Cond.instanceMethod ({ cls := "CoinJudge$Block", name := "<init>", desc := "()V" } : Jvm.MethodName)) ∈ lw_tbl := List.mem_append_right _ (List.mem_of_getElem? (i := 932) (by decide +kernel))
theorem kx_936 : (Jvm.Cond.fieldLink "CoinJudge$Chain" (107 : Nat) "CoinJudge$Block" "bytes" "[B") ∈ lw_tbl := List.mem_append_right _ (List.mem_of_getElem? (i := 936) (by decide +kernel))
theorem kx_938 : (Jvm.Cond.fieldLink "CoinJudge$Chain" (130 : Nat) "CoinJudge$Block" "starts" "[I") ∈ lw_tbl := List.mem_append_right _ (List.mem_of_getElem? (i := 938) (by decide +kernel))
theorem kx_940 : (Jvm.Cond.fieldLink "CoinJudge" (171 : Nat) "CoinJudge$Block" "ids" "[B") ∈ lw_tbl := List.mem_append_right _ (List.mem_of_getElem? (i := 940) (by decide +kernel))
theorem kx_941 : (Jvm.Cond.fieldLink "CoinJudge$Chain" (225 : Nat) "CoinJudge$Block" "ids" "[B") ∈ lw_tbl := List.mem_append_right _ (List.mem_of_getElem? (i := 941) (by decide +kernel))
theorem kx_943 : (Jvm.Cond.fieldLink "CoinJudge$Chain" (96 : Nat) "CoinJudge$Block" "hash" "[B") ∈ lw_tbl := List.mem_append_right _ (List.mem_of_getElem? (i := 943) (by decide +kernel))
theorem kx_944 : (Jvm.Cond.fieldLink "CoinJudge" (219 : Nat) "CoinJudge$Block" "hash" "[B") ∈ lw_tbl := List.mem_append_right _ (List.mem_of_getElem? (i := 944) (by decide +kernel))
theorem kx_946 : (Jvm.Cond.fieldLink "CoinJudge$Chain" (133 : Nat) "CoinJudge$Block" "length" "I") ∈ lw_tbl := List.mem_append_right _ (List.mem_of_getElem? (i := 946) (by decide +kernel))
theorem kx_947 : (Jvm.Cond.fieldLink "CoinJudge" (286 : Nat) "CoinJudge$Block" "length" "I") ∈ lw_tbl := List.mem_append_right _ (List.mem_of_getElem? (i := 947) (by decide +kernel))
theorem kx_949 : (Jvm.Cond.fieldLink "CoinJudge$Chain" (127 : Nat) "CoinJudge$Block" "count" "I") ∈ lw_tbl := List.mem_append_right _ (List.mem_of_getElem? (i := 949) (by decide +kernel))
theorem kx_950 : (Jvm.Cond.fieldLink "CoinJudge" (283 : Nat) "CoinJudge$Block" "count" "I") ∈ lw_tbl := List.mem_append_right _ (List.mem_of_getElem? (i := 950) (by decide +kernel))
theorem kx_952 : (Jvm.Cond.fieldLink "CoinJudge$Chain" (110 : Nat) "CoinJudge$Block" "parent" "I") ∈ lw_tbl := List.mem_append_right _ (List.mem_of_getElem? (i := 952) (by decide +kernel))
theorem kx_953 : (Jvm.Cond.fieldLink "CoinJudge" (262 : Nat) "CoinJudge$Block" "parent" "I") ∈ lw_tbl := List.mem_append_right _ (List.mem_of_getElem? (i := 953) (by decide +kernel))
theorem kx_954 : (Jvm.Cond.fieldLink "CoinJudge$Chain" (113 : Nat) "CoinJudge$Block" "height" "I") ∈ lw_tbl := List.mem_append_right _ (List.mem_of_getElem? (i := 954) (by decide +kernel))
theorem kx_955 : (Jvm.Cond.fieldLink "CoinJudge" (265 : Nat) "CoinJudge$Block" "height" "I") ∈ lw_tbl := List.mem_append_right _ (List.mem_of_getElem? (i := 955) (by decide +kernel))
theorem kx_956 : (Jvm.Cond.fieldLink "CoinJudge$Chain" (75 : Nat) "CoinJudge$Block" "work" "J") ∈ lw_tbl := List.mem_append_right _ (List.mem_of_getElem? (i := 956) (by decide +kernel))
theorem kx_957 : (Jvm.Cond.fieldLink "CoinJudge" (247 : Nat) "CoinJudge$Block" "work" "J") ∈ lw_tbl := List.mem_append_right _ (List.mem_of_getElem? (i := 957) (by decide +kernel))
theorem kx_958 : (Jvm.Cond.fieldLink "CoinJudge$Chain" (174 : Nat) "CoinJudge$Block" "bad" "Z") ∈ lw_tbl := List.mem_append_right _ (List.mem_of_getElem? (i := 958) (by decide +kernel))
theorem kx_959 : (Jvm.Cond.fieldLink "CoinJudge$Chain" (95 : Nat) "CoinJudge$Block" "coinRow" "[I") ∈ lw_tbl := List.mem_append_right _ (List.mem_of_getElem? (i := 959) (by decide +kernel))
theorem kx_960 : (Jvm.Cond.fieldLink "CoinJudge" (268 : Nat) "CoinJudge$Block" "coinRow" "[I") ∈ lw_tbl := List.mem_append_right _ (List.mem_of_getElem? (i := 960) (by decide +kernel))
theorem kx_984 : (Jvm.Cond.methodLink "CoinJudge$Chain" (55 : Nat) ({ cls := "CoinJudge$Block", name := "read", desc := "(LCoinJudge$Buffer;LCoinJudge$TxView;LCoinJudge$Hasher;)Z" } : Jvm.MethodName)) ∈ lw_tbl := List.mem_append_right _ (List.mem_of_getElem? (i := 984) (by decide +kernel))
theorem kx_985 : (Jvm.Cond.instanceMethod ({ cls := "CoinJudge$Block", name := "read", desc := "(LCoinJudge$Buffer;LCoinJudge$TxView;LCoinJudge$Hasher;)Z" } : Jvm.MethodName)) ∈ lw_tbl := List.mem_append_right _ (List.mem_of_getElem? (i := 985) (by decide +kernel))
theorem kx_986 : (Jvm.Cond.selects "CoinJudge$Block" ({ cls := "CoinJudge$Block", name := "read", desc := "(LCoinJudge$Buffer;LCoinJudge$TxView;LCoinJudge$Hasher;)Z" } : Jvm.MethodName) ({ cls := "CoinJudge$Block", name := "read", desc := "(LCoinJudge$Buffer;LCoinJudge$TxView;LCoinJudge$Hasher;)Z" } : Jvm.MethodName)) ∈ lw_tbl := List.mem_append_right _ (List.mem_of_getElem? (i := 986) (by decide +kernel))
theorem kx_1001 : (Jvm.Cond.methodLink "CoinJudge$Chain" (59 : Nat) ({ cls := "CoinJudge$Block", name := "nameTransactions", desc := "(LCoinJudge$Hasher;)V" } : Jvm.MethodName)) ∈ lw_tbl := List.mem_append_right _ (List.mem_of_getElem? (i := 1001) (by decide +kernel))
theorem kx_1002 : (Jvm.Cond.instanceMethod ({ cls := "CoinJudge$Block", name := "nameTransactions", desc := "(LCoinJudge$Hasher;)V" } : Jvm.MethodName)) ∈ lw_tbl := List.mem_append_right _ (List.mem_of_getElem? (i := 1002) (by decide +kernel))
theorem kx_1003 : (Jvm.Cond.selects "CoinJudge$Block" ({ cls := "CoinJudge$Block", name := "nameTransactions", desc := "(LCoinJudge$Hasher;)V" } : Jvm.MethodName) ({ cls := "CoinJudge$Block", name := "nameTransactions", desc := "(LCoinJudge$Hasher;)V" } : Jvm.MethodName)) ∈ lw_tbl := List.mem_append_right _ (List.mem_of_getElem? (i := 1003) (by decide +kernel))
theorem kx_1005 : (Jvm.Cond.methodLink "CoinJudge$Chain" (63 : Nat) ({ cls := "CoinJudge$Block", name := "bits", desc := "()I" } : Jvm.MethodName)) ∈ lw_tbl := List.mem_append_right _ (List.mem_of_getElem? (i := 1005) (by decide +kernel))
theorem kx_1006 : (Jvm.Cond.instanceMethod ({ cls := "CoinJudge$Block", name := "bits", desc := "()I" } : Jvm.MethodName)) ∈ lw_tbl := List.mem_append_right _ (List.mem_of_getElem? (i := 1006) (by decide +kernel))
theorem kx_1007 : (Jvm.Cond.selects "CoinJudge$Block" ({ cls := "CoinJudge$Block", name := "bits", desc := "()I" } : Jvm.MethodName) ({ cls := "CoinJudge$Block", name := "bits", desc := "()I" } : Jvm.MethodName)) ∈ lw_tbl := List.mem_append_right _ (List.mem_of_getElem? (i := 1007) (by decide +kernel))
theorem kx_1010 : (Jvm.Cond.methodLink "CoinJudge$Chain" (67 : Nat) ({ cls := "CoinJudge$Target", name := "take", desc := "(I)Z" } : Jvm.MethodName)) ∈ lw_tbl := List.mem_append_right _ (List.mem_of_getElem? (i := 1010) (by decide +kernel))
theorem kx_1011 : (Jvm.Cond.methodLink "CoinJudge$Chain" (71 : Nat) ({ cls := "CoinJudge$Target", name := "work", desc := "()J" } : Jvm.MethodName)) ∈ lw_tbl := List.mem_append_right _ (List.mem_of_getElem? (i := 1011) (by decide +kernel))
theorem kx_1012 : (Jvm.Cond.instanceMethod ({ cls := "CoinJudge$Target", name := "work", desc := "()J" } : Jvm.MethodName)) ∈ lw_tbl := List.mem_append_right _ (List.mem_of_getElem? (i := 1012) (by decide +kernel))
theorem kx_1013 : (Jvm.Cond.selects "CoinJudge$Target" ({ cls := "CoinJudge$Target", name := "work", desc := "()J" } : Jvm.MethodName) ({ cls := "CoinJudge$Target", name := "work", desc := "()J" } : Jvm.MethodName)) ∈ lw_tbl := List.mem_append_right _ (List.mem_of_getElem? (i := 1013) (by decide +kernel))
theorem kx_1024 : (Jvm.Cond.methodLink "CoinJudge$Chain" (82 : Nat) ({ cls := "CoinJudge$Chain", name := "addCoins", desc := "(II)V" } : Jvm.MethodName)) ∈ lw_tbl := List.mem_append_right _ (List.mem_of_getElem? (i := 1024) (by decide +kernel))
theorem kx_1026 : (Jvm.Cond.instanceMethod ({ cls := "CoinJudge$Chain", name := "addCoins", desc := "(II)V" } : Jvm.MethodName)) ∈ lw_tbl := List.mem_append_right _ (List.mem_of_getElem? (i := 1026) (by decide +kernel))
theorem kx_1027 : (Jvm.Cond.code ({ cls := "CoinJudge$Chain", name := "addCoins", desc := "(II)V" } : Jvm.MethodName) prog_4_method_22_code (5 : Nat) (Option.none : Option Jvm.ClassFile.FieldType)) ∈ lw_tbl := List.mem_append_right _ (List.mem_of_getElem? (i := 1027) (by decide +kernel))
theorem kx_1028 : (Jvm.Cond.methodLink "CoinJudge$Chain" (191 : Nat) ({ cls := "CoinJudge$Chain", name := "placeOf", desc := "([II[BII)I" } : Jvm.MethodName)) ∈ lw_tbl := List.mem_append_right _ (List.mem_of_getElem? (i := 1028) (by decide +kernel))
theorem kx_1030 : (Jvm.Cond.instanceMethod ({ cls := "CoinJudge$Chain", name := "placeOf", desc := "([II[BII)I" } : Jvm.MethodName)) ∈ lw_tbl := List.mem_append_right _ (List.mem_of_getElem? (i := 1030) (by decide +kernel))
theorem kx_1031 : (Jvm.Cond.code ({ cls := "CoinJudge$Chain", name := "placeOf", desc := "([II[BII)I" } : Jvm.MethodName) prog_4_method_23_code (8 : Nat) (Option.some Jvm.ClassFile.FieldType.int)) ∈ lw_tbl := List.mem_append_right _ (List.mem_of_getElem? (i := 1031) (by decide +kernel))
theorem kx_1032 : (Jvm.Cond.methodLink "CoinJudge$Chain" (264 : Nat) ({ cls := "CoinJudge$Chain", name := "outputOf", desc := "(I)I" } : Jvm.MethodName)) ∈ lw_tbl := List.mem_append_right _ (List.mem_of_getElem? (i := 1032) (by decide +kernel))
theorem kx_1033 : (Jvm.Cond.static ({ cls := "CoinJudge$Chain", name := "outputOf", desc := "(I)I" } : Jvm.MethodName)) ∈ lw_tbl := List.mem_append_right _ (List.mem_of_getElem? (i := 1033) (by decide +kernel))
theorem kx_1034 : (Jvm.Cond.code ({ cls := "CoinJudge$Chain", name := "outputOf", desc := "(I)I" } : Jvm.MethodName) prog_4_method_26_code (1 : Nat) (Option.some Jvm.ClassFile.FieldType.int)) ∈ lw_tbl := List.mem_append_right _ (List.mem_of_getElem? (i := 1034) (by decide +kernel))
theorem kx_1035 : (Jvm.Cond.methodLink "CoinJudge$Chain" (154 : Nat) ({ cls := "CoinJudge$Chain", name := "blockOf", desc := "(I)I" } : Jvm.MethodName)) ∈ lw_tbl := List.mem_append_right _ (List.mem_of_getElem? (i := 1035) (by decide +kernel))
theorem kx_1036 : (Jvm.Cond.static ({ cls := "CoinJudge$Chain", name := "blockOf", desc := "(I)I" } : Jvm.MethodName)) ∈ lw_tbl := List.mem_append_right _ (List.mem_of_getElem? (i := 1036) (by decide +kernel))
theorem kx_1037 : (Jvm.Cond.code ({ cls := "CoinJudge$Chain", name := "blockOf", desc := "(I)I" } : Jvm.MethodName) prog_4_method_24_code (1 : Nat) (Option.some Jvm.ClassFile.FieldType.int)) ∈ lw_tbl := List.mem_append_right _ (List.mem_of_getElem? (i := 1037) (by decide +kernel))
theorem kx_1038 : (Jvm.Cond.methodLink "CoinJudge$Chain" (253 : Nat) ({ cls := "CoinJudge$Chain", name := "transactionOf", desc := "(I)I" } : Jvm.MethodName)) ∈ lw_tbl := List.mem_append_right _ (List.mem_of_getElem? (i := 1038) (by decide +kernel))
theorem kx_1039 : (Jvm.Cond.static ({ cls := "CoinJudge$Chain", name := "transactionOf", desc := "(I)I" } : Jvm.MethodName)) ∈ lw_tbl := List.mem_append_right _ (List.mem_of_getElem? (i := 1039) (by decide +kernel))
theorem kx_1040 : (Jvm.Cond.code ({ cls := "CoinJudge$Chain", name := "transactionOf", desc := "(I)I" } : Jvm.MethodName) prog_4_method_25_code (1 : Nat) (Option.some Jvm.ClassFile.FieldType.int)) ∈ lw_tbl := List.mem_append_right _ (List.mem_of_getElem? (i := 1040) (by decide +kernel))
theorem kx_1041 : (Jvm.Cond.methodLink "CoinJudge$Chain" (233 : Nat) ({ cls := "CoinJudge$Chain", name := "isSame", desc := "([BI[BI)Z" } : Jvm.MethodName)) ∈ lw_tbl := List.mem_append_right _ (List.mem_of_getElem? (i := 1041) (by decide +kernel))
theorem kx_1042 : (Jvm.Cond.static ({ cls := "CoinJudge$Chain", name := "isSame", desc := "([BI[BI)Z" } : Jvm.MethodName)) ∈ lw_tbl := List.mem_append_right _ (List.mem_of_getElem? (i := 1042) (by decide +kernel))
theorem kx_1043 : (Jvm.Cond.code ({ cls := "CoinJudge$Chain", name := "isSame", desc := "([BI[BI)Z" } : Jvm.MethodName) prog_4_method_18_code (5 : Nat) (Option.some Jvm.ClassFile.FieldType.boolean)) ∈ lw_tbl := List.mem_append_right _ (List.mem_of_getElem? (i := 1043) (by decide +kernel))
theorem kx_1044 : (Jvm.Cond.methodLink "CoinJudge$Chain" (89 : Nat) ({ cls := "java/util/Arrays", name := "copyOf", desc := "([II)[I" } : Jvm.MethodName)) ∈ lw_tbl := List.mem_append_right _ (List.mem_of_getElem? (i := 1044) (by decide +kernel))
theorem kx_1045 : (Jvm.Cond.static ({ cls := "java/util/Arrays", name := "copyOf", desc := "([II)[I" } : Jvm.MethodName)) ∈ lw_tbl := List.mem_append_right _ (List.mem_of_getElem? (i := 1045) (by decide +kernel))
theorem kx_1052 : (Jvm.Cond.constantLong "CoinJudge" (87 : Nat) (1000600 : Int64)) ∈ lw_tbl := List.mem_append_right _ (List.mem_of_getElem? (i := 1052) (by decide +kernel))
theorem kx_1053 : (Jvm.Cond.fieldLink "CoinJudge" (14 : Nat) "CoinJudge" "tape" "LCoinJudge$Buffer;") ∈ lw_tbl := List.mem_append_right _ (List.mem_of_getElem? (i := 1053) (by decide +kernel))
theorem kx_1054 : (Jvm.Cond.fieldLink "CoinJudge" (18 : Nat) "CoinJudge" "drawn" "LCoinJudge$Buffer;") ∈ lw_tbl := List.mem_append_right _ (List.mem_of_getElem? (i := 1054) (by decide +kernel))
theorem kx_1055 : (Jvm.Cond.fieldLink "CoinJudge" (21 : Nat) "CoinJudge" "wide" "LCoinJudge$Buffer;") ∈ lw_tbl := List.mem_append_right _ (List.mem_of_getElem? (i := 1055) (by decide +kernel))
theorem kx_1056 : (Jvm.Cond.fieldLink "CoinJudge" (27 : Nat) "CoinJudge" "hasher" "LCoinJudge$Hasher;") ∈ lw_tbl := List.mem_append_right _ (List.mem_of_getElem? (i := 1056) (by decide +kernel))
theorem kx_1057 : (Jvm.Cond.fieldLink "CoinJudge" (34 : Nat) "CoinJudge" "curve" "LCoinJudge$Curve;") ∈ lw_tbl := List.mem_append_right _ (List.mem_of_getElem? (i := 1057) (by decide +kernel))
theorem kx_1058 : (Jvm.Cond.fieldLink "CoinJudge" (41 : Nat) "CoinJudge" "view" "LCoinJudge$TxView;") ∈ lw_tbl := List.mem_append_right _ (List.mem_of_getElem? (i := 1058) (by decide +kernel))
theorem kx_1059 : (Jvm.Cond.fieldLink "CoinJudge" (50 : Nat) "CoinJudge" "machine" "LCoinJudge$Machine;") ∈ lw_tbl := List.mem_append_right _ (List.mem_of_getElem? (i := 1059) (by decide +kernel))
theorem kx_1060 : (Jvm.Cond.fieldLink "CoinJudge" (59 : Nat) "CoinJudge" "chain" "LCoinJudge$Chain;") ∈ lw_tbl := List.mem_append_right _ (List.mem_of_getElem? (i := 1060) (by decide +kernel))
theorem kx_1061 : (Jvm.Cond.fieldLink "CoinJudge" (65 : Nat) "CoinJudge" "drafts" "[LCoinJudge$DraftTx;") ∈ lw_tbl := List.mem_append_right _ (List.mem_of_getElem? (i := 1061) (by decide +kernel))
theorem kx_1062 : (Jvm.Cond.fieldLink "CoinJudge" (69 : Nat) "CoinJudge" "ids" "[B") ∈ lw_tbl := List.mem_append_right _ (List.mem_of_getElem? (i := 1062) (by decide +kernel))
theorem kx_1063 : (Jvm.Cond.fieldLink "CoinJudge" (73 : Nat) "CoinJudge" "row" "[B") ∈ lw_tbl := List.mem_append_right _ (List.mem_of_getElem? (i := 1063) (by decide +kernel))
theorem kx_1064 : (Jvm.Cond.fieldLink "CoinJudge" (76 : Nat) "CoinJudge" "zeros" "[B") ∈ lw_tbl := List.mem_append_right _ (List.mem_of_getElem? (i := 1064) (by decide +kernel))
theorem kx_1065 : (Jvm.Cond.fieldLink "CoinJudge" (83 : Nat) "CoinJudge" "draftCount" "I") ∈ lw_tbl := List.mem_append_right _ (List.mem_of_getElem? (i := 1065) (by decide +kernel))
theorem kx_1066 : (Jvm.Cond.fieldLink "CoinJudge" (142 : Nat) "CoinJudge" "draftParent" "I") ∈ lw_tbl := List.mem_append_right _ (List.mem_of_getElem? (i := 1066) (by decide +kernel))
theorem kx_1067 : (Jvm.Cond.fieldLink "CoinJudge" (89 : Nat) "CoinJudge" "draftTime" "J") ∈ lw_tbl := List.mem_append_right _ (List.mem_of_getElem? (i := 1067) (by decide +kernel))
theorem kx_1068 : (Jvm.Cond.fieldLink "CoinJudge" (237 : Nat) "CoinJudge" "reason" "I") ∈ lw_tbl := List.mem_append_right _ (List.mem_of_getElem? (i := 1068) (by decide +kernel))
theorem kx_1105 : (Jvm.Cond.code ({ cls := "CoinJudge", name := "coins", desc := "()J" } : Jvm.MethodName) prog_1_method_18_code (1 : Nat) (Option.some Jvm.ClassFile.FieldType.long)) ∈ lw_tbl := List.mem_append_right _ (List.mem_of_getElem? (i := 1105) (by decide +kernel))
theorem kx_1106 : (Jvm.Cond.methodLink "CoinJudge" (295 : Nat) ({ cls := "CoinJudge$Chain", name := "allValues", desc := "()J" } : Jvm.MethodName)) ∈ lw_tbl := List.mem_append_right _ (List.mem_of_getElem? (i := 1106) (by decide +kernel))
theorem kx_1107 : (Jvm.Cond.instanceMethod ({ cls := "CoinJudge$Chain", name := "allValues", desc := "()J" } : Jvm.MethodName)) ∈ lw_tbl := List.mem_append_right _ (List.mem_of_getElem? (i := 1107) (by decide +kernel))
theorem kx_1108 : (Jvm.Cond.selects "CoinJudge$Chain" ({ cls := "CoinJudge$Chain", name := "allValues", desc := "()J" } : Jvm.MethodName) ({ cls := "CoinJudge$Chain", name := "allValues", desc := "()J" } : Jvm.MethodName)) ∈ lw_tbl := List.mem_append_right _ (List.mem_of_getElem? (i := 1108) (by decide +kernel))
theorem kx_1109 : (Jvm.Cond.code ({ cls := "CoinJudge$Chain", name := "allValues", desc := "()J" } : Jvm.MethodName) prog_4_method_12_code (5 : Nat) (Option.some Jvm.ClassFile.FieldType.long)) ∈ lw_tbl := List.mem_append_right _ (List.mem_of_getElem? (i := 1109) (by decide +kernel))
theorem kx_1110 : (Jvm.Cond.methodLink "CoinJudge$Chain" (197 : Nat) ({ cls := "CoinJudge$Chain", name := "value", desc := "(I)J" } : Jvm.MethodName)) ∈ lw_tbl := List.mem_append_right _ (List.mem_of_getElem? (i := 1110) (by decide +kernel))
theorem kx_1112 : (Jvm.Cond.instanceMethod ({ cls := "CoinJudge$Chain", name := "value", desc := "(I)J" } : Jvm.MethodName)) ∈ lw_tbl := List.mem_append_right _ (List.mem_of_getElem? (i := 1112) (by decide +kernel))
theorem kx_1113 : (Jvm.Cond.code ({ cls := "CoinJudge$Chain", name := "value", desc := "(I)J" } : Jvm.MethodName) prog_4_method_27_code (2 : Nat) (Option.some Jvm.ClassFile.FieldType.long)) ∈ lw_tbl := List.mem_append_right _ (List.mem_of_getElem? (i := 1113) (by decide +kernel))
theorem kx_1114 : (Jvm.Cond.methodLink "CoinJudge$Chain" (247 : Nat) ({ cls := "CoinJudge$Buffer", name := "number", desc := "([BII)J" } : Jvm.MethodName)) ∈ lw_tbl := List.mem_append_right _ (List.mem_of_getElem? (i := 1114) (by decide +kernel))
theorem kx_1122 : (Jvm.Cond.code ({ cls := "CoinJudge", name := "feed", desc := "(IIIII)I" } : Jvm.MethodName) prog_1_method_2_code (6 : Nat) (Option.some Jvm.ClassFile.FieldType.int)) ∈ lw_tbl := List.mem_append_right _ (List.mem_of_getElem? (i := 1122) (by decide +kernel))
theorem kx_1123 : (Jvm.Cond.classLink "CoinJudge" (96 : Nat) "java/lang/IndexOutOfBoundsException") ∈ lw_tbl := List.mem_append_right _ (List.mem_of_getElem? (i := 1123) (by decide +kernel))
theorem kx_1124 : (Jvm.Cond.instantiable "java/lang/IndexOutOfBoundsException" (6 : Nat)) ∈ lw_tbl := List.mem_append_right _ (List.mem_of_getElem? (i := 1124) (by decide +kernel))
theorem kx_1132 : (Jvm.Cond.methodLink "CoinJudge" (98 : Nat) ({ cls := "java/lang/IndexOutOfBoundsException", name := "<init>", desc := "()V" } : Jvm.MethodName)) ∈ lw_tbl := List.mem_append_right _ (List.mem_of_getElem? (i := 1132) (by decide +kernel))
theorem kx_1133 : (Jvm.Cond.instanceMethod ({ cls := "java/lang/IndexOutOfBoundsException", name := "<init>", desc := "()V" } : Jvm.MethodName)) ∈ lw_tbl := List.mem_append_right _ (List.mem_of_getElem? (i := 1133) (by decide +kernel))
theorem kx_1134 : (Jvm.Cond.code ({ cls := "java/lang/IndexOutOfBoundsException", name := "<init>", desc := "()V" } : Jvm.MethodName) prog_25_method_1_code (1 : Nat) (Option.none : Option Jvm.ClassFile.FieldType)) ∈ lw_tbl := List.mem_append_right _ (List.mem_of_getElem? (i := 1134) (by decide +kernel))
theorem kx_1144 : (Jvm.Cond.methodLink "CoinJudge" (99 : Nat) ({ cls := "CoinJudge$Buffer", name := "addHighFirst", desc := "(I)V" } : Jvm.MethodName)) ∈ lw_tbl := List.mem_append_right _ (List.mem_of_getElem? (i := 1144) (by decide +kernel))
theorem kx_1145 : (Jvm.Cond.instanceMethod ({ cls := "CoinJudge$Buffer", name := "addHighFirst", desc := "(I)V" } : Jvm.MethodName)) ∈ lw_tbl := List.mem_append_right _ (List.mem_of_getElem? (i := 1145) (by decide +kernel))
theorem kx_1146 : (Jvm.Cond.selects "CoinJudge$Buffer" ({ cls := "CoinJudge$Buffer", name := "addHighFirst", desc := "(I)V" } : Jvm.MethodName) ({ cls := "CoinJudge$Buffer", name := "addHighFirst", desc := "(I)V" } : Jvm.MethodName)) ∈ lw_tbl := List.mem_append_right _ (List.mem_of_getElem? (i := 1146) (by decide +kernel))
theorem kx_1158 : (Jvm.Cond.code ({ cls := "CoinJudge", name := "end", desc := "(I)I" } : Jvm.MethodName) prog_1_method_3_code (2 : Nat) (Option.some Jvm.ClassFile.FieldType.int)) ∈ lw_tbl := List.mem_append_right _ (List.mem_of_getElem? (i := 1158) (by decide +kernel))
theorem kx_1159 : (Jvm.Cond.classLink "CoinJudge" (102 : Nat) "java/lang/IllegalArgumentException") ∈ lw_tbl := List.mem_append_right _ (List.mem_of_getElem? (i := 1159) (by decide +kernel))
theorem kx_1160 : (Jvm.Cond.methodLink "CoinJudge" (104 : Nat) ({ cls := "java/lang/IllegalArgumentException", name := "<init>", desc := "()V" } : Jvm.MethodName)) ∈ lw_tbl := List.mem_append_right _ (List.mem_of_getElem? (i := 1160) (by decide +kernel))
theorem kx_1161 : (Jvm.Cond.instanceMethod ({ cls := "java/lang/IllegalArgumentException", name := "<init>", desc := "()V" } : Jvm.MethodName)) ∈ lw_tbl := List.mem_append_right _ (List.mem_of_getElem? (i := 1161) (by decide +kernel))
theorem kx_1162 : (Jvm.Cond.code ({ cls := "java/lang/IllegalArgumentException", name := "<init>", desc := "()V" } : Jvm.MethodName) prog_23_method_1_code (1 : Nat) (Option.none : Option Jvm.ClassFile.FieldType)) ∈ lw_tbl := List.mem_append_right _ (List.mem_of_getElem? (i := 1162) (by decide +kernel))
theorem kx_1170 : (Jvm.Cond.code ({ cls := "CoinJudge", name := "patch", desc := "(II)I" } : Jvm.MethodName) prog_1_method_4_code (4 : Nat) (Option.some Jvm.ClassFile.FieldType.int)) ∈ lw_tbl := List.mem_append_right _ (List.mem_of_getElem? (i := 1170) (by decide +kernel))
theorem kx_1177 : (Jvm.Cond.code ({ cls := "CoinJudge", name := "key", desc := "(II)I" } : Jvm.MethodName) prog_1_method_5_code (4 : Nat) (Option.some Jvm.ClassFile.FieldType.int)) ∈ lw_tbl := List.mem_append_right _ (List.mem_of_getElem? (i := 1177) (by decide +kernel))
theorem kx_1178 : (Jvm.Cond.methodLink "CoinJudge" (111 : Nat) ({ cls := "CoinJudge$Curve", name := "writeKey", desc := "(IZLCoinJudge$Buffer;)V" } : Jvm.MethodName)) ∈ lw_tbl := List.mem_append_right _ (List.mem_of_getElem? (i := 1178) (by decide +kernel))
theorem kx_1179 : (Jvm.Cond.instanceMethod ({ cls := "CoinJudge$Curve", name := "writeKey", desc := "(IZLCoinJudge$Buffer;)V" } : Jvm.MethodName)) ∈ lw_tbl := List.mem_append_right _ (List.mem_of_getElem? (i := 1179) (by decide +kernel))
theorem kx_1180 : (Jvm.Cond.selects "CoinJudge$Curve" ({ cls := "CoinJudge$Curve", name := "writeKey", desc := "(IZLCoinJudge$Buffer;)V" } : Jvm.MethodName) ({ cls := "CoinJudge$Curve", name := "writeKey", desc := "(IZLCoinJudge$Buffer;)V" } : Jvm.MethodName)) ∈ lw_tbl := List.mem_append_right _ (List.mem_of_getElem? (i := 1180) (by decide +kernel))
theorem kx_1218 : (Jvm.Cond.methodLink "CoinJudge" (115 : Nat) ({ cls := "CoinJudge$Hasher", name := "hash160", desc := "([BII[BI)V" } : Jvm.MethodName)) ∈ lw_tbl := List.mem_append_right _ (List.mem_of_getElem? (i := 1218) (by decide +kernel))
theorem kx_1219 : (Jvm.Cond.instanceMethod ({ cls := "CoinJudge$Hasher", name := "hash160", desc := "([BII[BI)V" } : Jvm.MethodName)) ∈ lw_tbl := List.mem_append_right _ (List.mem_of_getElem? (i := 1219) (by decide +kernel))
theorem kx_1220 : (Jvm.Cond.selects "CoinJudge$Hasher" ({ cls := "CoinJudge$Hasher", name := "hash160", desc := "([BII[BI)V" } : Jvm.MethodName) ({ cls := "CoinJudge$Hasher", name := "hash160", desc := "([BII[BI)V" } : Jvm.MethodName)) ∈ lw_tbl := List.mem_append_right _ (List.mem_of_getElem? (i := 1220) (by decide +kernel))
theorem kx_1249 : (Jvm.Cond.code ({ cls := "CoinJudge", name := "digest", desc := "(I)I" } : Jvm.MethodName) prog_1_method_6_code (3 : Nat) (Option.some Jvm.ClassFile.FieldType.int)) ∈ lw_tbl := List.mem_append_right _ (List.mem_of_getElem? (i := 1249) (by decide +kernel))
theorem kx_1250 : (Jvm.Cond.methodLink "CoinJudge" (123 : Nat) ({ cls := "CoinJudge$Hasher", name := "sha", desc := "([BII[BI)V" } : Jvm.MethodName)) ∈ lw_tbl := List.mem_append_right _ (List.mem_of_getElem? (i := 1250) (by decide +kernel))
theorem kx_1251 : (Jvm.Cond.methodLink "CoinJudge" (126 : Nat) ({ cls := "CoinJudge$Hasher", name := "ripe", desc := "([BII[BI)V" } : Jvm.MethodName)) ∈ lw_tbl := List.mem_append_right _ (List.mem_of_getElem? (i := 1251) (by decide +kernel))
theorem kx_1258 : (Jvm.Cond.code ({ cls := "CoinJudge", name := "open", desc := "(IJ)V" } : Jvm.MethodName) prog_1_method_7_code (4 : Nat) (Option.none : Option Jvm.ClassFile.FieldType)) ∈ lw_tbl := List.mem_append_right _ (List.mem_of_getElem? (i := 1258) (by decide +kernel))
theorem kx_1259 : (Jvm.Cond.methodLink "CoinJudge" (135 : Nat) ({ cls := "CoinJudge", name := "isNotUnsigned", desc := "(J)Z" } : Jvm.MethodName)) ∈ lw_tbl := List.mem_append_right _ (List.mem_of_getElem? (i := 1259) (by decide +kernel))
theorem kx_1260 : (Jvm.Cond.static ({ cls := "CoinJudge", name := "isNotUnsigned", desc := "(J)Z" } : Jvm.MethodName)) ∈ lw_tbl := List.mem_append_right _ (List.mem_of_getElem? (i := 1260) (by decide +kernel))
theorem kx_1261 : (Jvm.Cond.code ({ cls := "CoinJudge", name := "isNotUnsigned", desc := "(J)Z" } : Jvm.MethodName) prog_1_method_20_code (2 : Nat) (Option.some Jvm.ClassFile.FieldType.boolean)) ∈ lw_tbl := List.mem_append_right _ (List.mem_of_getElem? (i := 1261) (by decide +kernel))
theorem kx_1268 : (Jvm.Cond.code ({ cls := "CoinJudge", name := "tx", desc := "(JJ)I" } : Jvm.MethodName) prog_1_method_8_code (5 : Nat) (Option.some Jvm.ClassFile.FieldType.int)) ∈ lw_tbl := List.mem_append_right _ (List.mem_of_getElem? (i := 1268) (by decide +kernel))
theorem kx_1276 : (Jvm.Cond.code ({ cls := "CoinJudge", name := "input", desc := "(IIIJ)I" } : Jvm.MethodName) prog_1_method_9_code (7 : Nat) (Option.some Jvm.ClassFile.FieldType.int)) ∈ lw_tbl := List.mem_append_right _ (List.mem_of_getElem? (i := 1276) (by decide +kernel))
theorem kx_1277 : (Jvm.Cond.methodLink "CoinJudge" (149 : Nat) ({ cls := "CoinJudge", name := "hasTransaction", desc := "(II)Z" } : Jvm.MethodName)) ∈ lw_tbl := List.mem_append_right _ (List.mem_of_getElem? (i := 1277) (by decide +kernel))
theorem kx_1279 : (Jvm.Cond.instanceMethod ({ cls := "CoinJudge", name := "hasTransaction", desc := "(II)Z" } : Jvm.MethodName)) ∈ lw_tbl := List.mem_append_right _ (List.mem_of_getElem? (i := 1279) (by decide +kernel))
theorem kx_1280 : (Jvm.Cond.code ({ cls := "CoinJudge", name := "hasTransaction", desc := "(II)Z" } : Jvm.MethodName) prog_1_method_21_code (3 : Nat) (Option.some Jvm.ClassFile.FieldType.boolean)) ∈ lw_tbl := List.mem_append_right _ (List.mem_of_getElem? (i := 1280) (by decide +kernel))
theorem kx_1281 : (Jvm.Cond.classLink "CoinJudge" (153 : Nat) "java/lang/IllegalStateException") ∈ lw_tbl := List.mem_append_right _ (List.mem_of_getElem? (i := 1281) (by decide +kernel))
theorem kx_1282 : (Jvm.Cond.instantiable "java/lang/IllegalStateException" (6 : Nat)) ∈ lw_tbl := List.mem_append_right _ (List.mem_of_getElem? (i := 1282) (by decide +kernel))
theorem kx_1290 : (Jvm.Cond.methodLink "CoinJudge" (155 : Nat) ({ cls := "java/lang/IllegalStateException", name := "<init>", desc := "()V" } : Jvm.MethodName)) ∈ lw_tbl := List.mem_append_right _ (List.mem_of_getElem? (i := 1290) (by decide +kernel))
theorem kx_1291 : (Jvm.Cond.instanceMethod ({ cls := "java/lang/IllegalStateException", name := "<init>", desc := "()V" } : Jvm.MethodName)) ∈ lw_tbl := List.mem_append_right _ (List.mem_of_getElem? (i := 1291) (by decide +kernel))
theorem kx_1292 : (Jvm.Cond.code ({ cls := "java/lang/IllegalStateException", name := "<init>", desc := "()V" } : Jvm.MethodName) prog_24_method_1_code (1 : Nat) (Option.none : Option Jvm.ClassFile.FieldType)) ∈ lw_tbl := List.mem_append_right _ (List.mem_of_getElem? (i := 1292) (by decide +kernel))
theorem kx_1302 : (Jvm.Cond.code ({ cls := "CoinJudge", name := "output", desc := "(J)I" } : Jvm.MethodName) prog_1_method_10_code (4 : Nat) (Option.some Jvm.ClassFile.FieldType.int)) ∈ lw_tbl := List.mem_append_right _ (List.mem_of_getElem? (i := 1302) (by decide +kernel))
theorem kx_1309 : (Jvm.Cond.code ({ cls := "CoinJudge", name := "push", desc := "(I)I" } : Jvm.MethodName) prog_1_method_11_code (3 : Nat) (Option.some Jvm.ClassFile.FieldType.int)) ∈ lw_tbl := List.mem_append_right _ (List.mem_of_getElem? (i := 1309) (by decide +kernel))
theorem kx_1310 : (Jvm.Cond.methodLink "CoinJudge" (185 : Nat) ({ cls := "CoinJudge$DraftTx", name := "pushSize", desc := "(I)I" } : Jvm.MethodName)) ∈ lw_tbl := List.mem_append_right _ (List.mem_of_getElem? (i := 1310) (by decide +kernel))
theorem kx_1313 : (Jvm.Cond.methodLink "CoinJudge" (189 : Nat) ({ cls := "CoinJudge$DraftTx", name := "addPush", desc := "(ILCoinJudge$Buffer;)V" } : Jvm.MethodName)) ∈ lw_tbl := List.mem_append_right _ (List.mem_of_getElem? (i := 1313) (by decide +kernel))
theorem kx_1314 : (Jvm.Cond.instanceMethod ({ cls := "CoinJudge$DraftTx", name := "addPush", desc := "(ILCoinJudge$Buffer;)V" } : Jvm.MethodName)) ∈ lw_tbl := List.mem_append_right _ (List.mem_of_getElem? (i := 1314) (by decide +kernel))
theorem kx_1315 : (Jvm.Cond.selects "CoinJudge$DraftTx" ({ cls := "CoinJudge$DraftTx", name := "addPush", desc := "(ILCoinJudge$Buffer;)V" } : Jvm.MethodName) ({ cls := "CoinJudge$DraftTx", name := "addPush", desc := "(ILCoinJudge$Buffer;)V" } : Jvm.MethodName)) ∈ lw_tbl := List.mem_append_right _ (List.mem_of_getElem? (i := 1315) (by decide +kernel))
theorem kx_1324 : (Jvm.Cond.code ({ cls := "CoinJudge", name := "sign", desc := "(III)I" } : Jvm.MethodName) prog_1_method_12_code (5 : Nat) (Option.some Jvm.ClassFile.FieldType.int)) ∈ lw_tbl := List.mem_append_right _ (List.mem_of_getElem? (i := 1324) (by decide +kernel))
theorem kx_1325 : (Jvm.Cond.methodLink "CoinJudge" (197 : Nat) ({ cls := "CoinJudge$TxView", name := "read", desc := "([BII)I" } : Jvm.MethodName)) ∈ lw_tbl := List.mem_append_right _ (List.mem_of_getElem? (i := 1325) (by decide +kernel))
theorem kx_1326 : (Jvm.Cond.methodLink "CoinJudge" (201 : Nat) ({ cls := "CoinJudge$Machine", name := "cleanCode", desc := "([BIII)V" } : Jvm.MethodName)) ∈ lw_tbl := List.mem_append_right _ (List.mem_of_getElem? (i := 1326) (by decide +kernel))
theorem kx_1343 : (Jvm.Cond.methodLink "CoinJudge" (205 : Nat) ({ cls := "CoinJudge$Machine", name := "nameSigned", desc := "(LCoinJudge$TxView;II)V" } : Jvm.MethodName)) ∈ lw_tbl := List.mem_append_right _ (List.mem_of_getElem? (i := 1343) (by decide +kernel))
theorem kx_1358 : (Jvm.Cond.methodLink "CoinJudge" (212 : Nat) ({ cls := "CoinJudge$Curve", name := "writeSignature", desc := "(II[BLCoinJudge$Hasher;LCoinJudge$Buffer;)V" } : Jvm.MethodName)) ∈ lw_tbl := List.mem_append_right _ (List.mem_of_getElem? (i := 1358) (by decide +kernel))
theorem kx_1359 : (Jvm.Cond.instanceMethod ({ cls := "CoinJudge$Curve", name := "writeSignature", desc := "(II[BLCoinJudge$Hasher;LCoinJudge$Buffer;)V" } : Jvm.MethodName)) ∈ lw_tbl := List.mem_append_right _ (List.mem_of_getElem? (i := 1359) (by decide +kernel))
theorem kx_1360 : (Jvm.Cond.selects "CoinJudge$Curve" ({ cls := "CoinJudge$Curve", name := "writeSignature", desc := "(II[BLCoinJudge$Hasher;LCoinJudge$Buffer;)V" } : Jvm.MethodName) ({ cls := "CoinJudge$Curve", name := "writeSignature", desc := "(II[BLCoinJudge$Hasher;LCoinJudge$Buffer;)V" } : Jvm.MethodName)) ∈ lw_tbl := List.mem_append_right _ (List.mem_of_getElem? (i := 1360) (by decide +kernel))
theorem kx_1391 : (Jvm.Cond.code ({ cls := "CoinJudge", name := "seal", desc := "(I)I" } : Jvm.MethodName) prog_1_method_13_code (3 : Nat) (Option.some Jvm.ClassFile.FieldType.int)) ∈ lw_tbl := List.mem_append_right _ (List.mem_of_getElem? (i := 1391) (by decide +kernel))
theorem kx_1392 : (Jvm.Cond.methodLink "CoinJudge" (216 : Nat) ({ cls := "CoinJudge$Chain", name := "dueBits", desc := "(I)I" } : Jvm.MethodName)) ∈ lw_tbl := List.mem_append_right _ (List.mem_of_getElem? (i := 1392) (by decide +kernel))
theorem kx_1393 : (Jvm.Cond.instanceMethod ({ cls := "CoinJudge$Chain", name := "dueBits", desc := "(I)I" } : Jvm.MethodName)) ∈ lw_tbl := List.mem_append_right _ (List.mem_of_getElem? (i := 1393) (by decide +kernel))
theorem kx_1394 : (Jvm.Cond.selects "CoinJudge$Chain" ({ cls := "CoinJudge$Chain", name := "dueBits", desc := "(I)I" } : Jvm.MethodName) ({ cls := "CoinJudge$Chain", name := "dueBits", desc := "(I)I" } : Jvm.MethodName)) ∈ lw_tbl := List.mem_append_right _ (List.mem_of_getElem? (i := 1394) (by decide +kernel))
theorem kx_1395 : (Jvm.Cond.code ({ cls := "CoinJudge$Chain", name := "dueBits", desc := "(I)I" } : Jvm.MethodName) prog_4_method_9_code (5 : Nat) (Option.some Jvm.ClassFile.FieldType.int)) ∈ lw_tbl := List.mem_append_right _ (List.mem_of_getElem? (i := 1395) (by decide +kernel))
theorem kx_1396 : (Jvm.Cond.methodLink "CoinJudge$Chain" (181 : Nat) ({ cls := "CoinJudge$Block", name := "time", desc := "()J" } : Jvm.MethodName)) ∈ lw_tbl := List.mem_append_right _ (List.mem_of_getElem? (i := 1396) (by decide +kernel))
theorem kx_1397 : (Jvm.Cond.instanceMethod ({ cls := "CoinJudge$Block", name := "time", desc := "()J" } : Jvm.MethodName)) ∈ lw_tbl := List.mem_append_right _ (List.mem_of_getElem? (i := 1397) (by decide +kernel))
theorem kx_1398 : (Jvm.Cond.selects "CoinJudge$Block" ({ cls := "CoinJudge$Block", name := "time", desc := "()J" } : Jvm.MethodName) ({ cls := "CoinJudge$Block", name := "time", desc := "()J" } : Jvm.MethodName)) ∈ lw_tbl := List.mem_append_right _ (List.mem_of_getElem? (i := 1398) (by decide +kernel))
theorem kx_1400 : (Jvm.Cond.methodLink "CoinJudge$Chain" (184 : Nat) ({ cls := "CoinJudge$Target", name := "stretch", desc := "(J)V" } : Jvm.MethodName)) ∈ lw_tbl := List.mem_append_right _ (List.mem_of_getElem? (i := 1400) (by decide +kernel))
theorem kx_1401 : (Jvm.Cond.instanceMethod ({ cls := "CoinJudge$Target", name := "stretch", desc := "(J)V" } : Jvm.MethodName)) ∈ lw_tbl := List.mem_append_right _ (List.mem_of_getElem? (i := 1401) (by decide +kernel))
theorem kx_1402 : (Jvm.Cond.selects "CoinJudge$Target" ({ cls := "CoinJudge$Target", name := "stretch", desc := "(J)V" } : Jvm.MethodName) ({ cls := "CoinJudge$Target", name := "stretch", desc := "(J)V" } : Jvm.MethodName)) ∈ lw_tbl := List.mem_append_right _ (List.mem_of_getElem? (i := 1402) (by decide +kernel))
theorem kx_1415 : (Jvm.Cond.methodLink "CoinJudge$Chain" (188 : Nat) ({ cls := "CoinJudge$Target", name := "asBits", desc := "()I" } : Jvm.MethodName)) ∈ lw_tbl := List.mem_append_right _ (List.mem_of_getElem? (i := 1415) (by decide +kernel))
theorem kx_1416 : (Jvm.Cond.instanceMethod ({ cls := "CoinJudge$Target", name := "asBits", desc := "()I" } : Jvm.MethodName)) ∈ lw_tbl := List.mem_append_right _ (List.mem_of_getElem? (i := 1416) (by decide +kernel))
theorem kx_1417 : (Jvm.Cond.selects "CoinJudge$Target" ({ cls := "CoinJudge$Target", name := "asBits", desc := "()I" } : Jvm.MethodName) ({ cls := "CoinJudge$Target", name := "asBits", desc := "()I" } : Jvm.MethodName)) ∈ lw_tbl := List.mem_append_right _ (List.mem_of_getElem? (i := 1417) (by decide +kernel))
theorem kx_1426 : (Jvm.Cond.code ({ cls := "CoinJudge", name := "judge", desc := "()I" } : Jvm.MethodName) prog_1_method_14_code (5 : Nat) (Option.some Jvm.ClassFile.FieldType.int)) ∈ lw_tbl := List.mem_append_right _ (List.mem_of_getElem? (i := 1426) (by decide +kernel))
theorem kx_1427 : (Jvm.Cond.methodLink "CoinJudge" (233 : Nat) ({ cls := "CoinJudge$Chain", name := "inspect", desc := "(LCoinJudge$Buffer;)I" } : Jvm.MethodName)) ∈ lw_tbl := List.mem_append_right _ (List.mem_of_getElem? (i := 1427) (by decide +kernel))
theorem kx_1428 : (Jvm.Cond.instanceMethod ({ cls := "CoinJudge$Chain", name := "inspect", desc := "(LCoinJudge$Buffer;)I" } : Jvm.MethodName)) ∈ lw_tbl := List.mem_append_right _ (List.mem_of_getElem? (i := 1428) (by decide +kernel))
theorem kx_1429 : (Jvm.Cond.selects "CoinJudge$Chain" ({ cls := "CoinJudge$Chain", name := "inspect", desc := "(LCoinJudge$Buffer;)I" } : Jvm.MethodName) ({ cls := "CoinJudge$Chain", name := "inspect", desc := "(LCoinJudge$Buffer;)I" } : Jvm.MethodName)) ∈ lw_tbl := List.mem_append_right _ (List.mem_of_getElem? (i := 1429) (by decide +kernel))
theorem kx_1430 : (Jvm.Cond.code ({ cls := "CoinJudge$Chain", name := "inspect", desc := "(LCoinJudge$Buffer;)I" } : Jvm.MethodName) prog_4_method_3_code (4 : Nat) (Option.some Jvm.ClassFile.FieldType.int)) ∈ lw_tbl := List.mem_append_right _ (List.mem_of_getElem? (i := 1430) (by decide +kernel))
theorem kx_1431 : (Jvm.Cond.methodLink "CoinJudge$Chain" (99 : Nat) ({ cls := "CoinJudge$Chain", name := "numberOf", desc := "([BI)I" } : Jvm.MethodName)) ∈ lw_tbl := List.mem_append_right _ (List.mem_of_getElem? (i := 1431) (by decide +kernel))
theorem kx_1433 : (Jvm.Cond.instanceMethod ({ cls := "CoinJudge$Chain", name := "numberOf", desc := "([BI)I" } : Jvm.MethodName)) ∈ lw_tbl := List.mem_append_right _ (List.mem_of_getElem? (i := 1433) (by decide +kernel))
theorem kx_1434 : (Jvm.Cond.code ({ cls := "CoinJudge$Chain", name := "numberOf", desc := "([BI)I" } : Jvm.MethodName) prog_4_method_17_code (4 : Nat) (Option.some Jvm.ClassFile.FieldType.int)) ∈ lw_tbl := List.mem_append_right _ (List.mem_of_getElem? (i := 1434) (by decide +kernel))
theorem kx_1435 : (Jvm.Cond.methodLink "CoinJudge$Chain" (103 : Nat) ({ cls := "CoinJudge$Target", name := "isReachedBy", desc := "([B)Z" } : Jvm.MethodName)) ∈ lw_tbl := List.mem_append_right _ (List.mem_of_getElem? (i := 1435) (by decide +kernel))
theorem kx_1436 : (Jvm.Cond.methodLink "CoinJudge$Chain" (116 : Nat) ({ cls := "CoinJudge$Chain", name := "refuseHeader", desc := "(LCoinJudge$Block;)I" } : Jvm.MethodName)) ∈ lw_tbl := List.mem_append_right _ (List.mem_of_getElem? (i := 1436) (by decide +kernel))
theorem kx_1438 : (Jvm.Cond.instanceMethod ({ cls := "CoinJudge$Chain", name := "refuseHeader", desc := "(LCoinJudge$Block;)I" } : Jvm.MethodName)) ∈ lw_tbl := List.mem_append_right _ (List.mem_of_getElem? (i := 1438) (by decide +kernel))
theorem kx_1439 : (Jvm.Cond.code ({ cls := "CoinJudge$Chain", name := "refuseHeader", desc := "(LCoinJudge$Block;)I" } : Jvm.MethodName) prog_4_method_13_code (2 : Nat) (Option.some Jvm.ClassFile.FieldType.int)) ∈ lw_tbl := List.mem_append_right _ (List.mem_of_getElem? (i := 1439) (by decide +kernel))
theorem kx_1440 : (Jvm.Cond.methodLink "CoinJudge$Chain" (201 : Nat) ({ cls := "CoinJudge$Chain", name := "dueBits", desc := "(I)I" } : Jvm.MethodName)) ∈ lw_tbl := List.mem_append_right _ (List.mem_of_getElem? (i := 1440) (by decide +kernel))
theorem kx_1441 : (Jvm.Cond.methodLink "CoinJudge$Chain" (204 : Nat) ({ cls := "CoinJudge$Chain", name := "middle", desc := "(I)J" } : Jvm.MethodName)) ∈ lw_tbl := List.mem_append_right _ (List.mem_of_getElem? (i := 1441) (by decide +kernel))
theorem kx_1442 : (Jvm.Cond.instanceMethod ({ cls := "CoinJudge$Chain", name := "middle", desc := "(I)J" } : Jvm.MethodName)) ∈ lw_tbl := List.mem_append_right _ (List.mem_of_getElem? (i := 1442) (by decide +kernel))
theorem kx_1443 : (Jvm.Cond.selects "CoinJudge$Chain" ({ cls := "CoinJudge$Chain", name := "middle", desc := "(I)J" } : Jvm.MethodName) ({ cls := "CoinJudge$Chain", name := "middle", desc := "(I)J" } : Jvm.MethodName)) ∈ lw_tbl := List.mem_append_right _ (List.mem_of_getElem? (i := 1443) (by decide +kernel))
theorem kx_1444 : (Jvm.Cond.code ({ cls := "CoinJudge$Chain", name := "middle", desc := "(I)J" } : Jvm.MethodName) prog_4_method_10_code (7 : Nat) (Option.some Jvm.ClassFile.FieldType.long)) ∈ lw_tbl := List.mem_append_right _ (List.mem_of_getElem? (i := 1444) (by decide +kernel))
theorem kx_1445 : (Jvm.Cond.methodLink "CoinJudge$Chain" (120 : Nat) ({ cls := "CoinJudge$Chain", name := "refuseTransactions", desc := "(LCoinJudge$Block;)I" } : Jvm.MethodName)) ∈ lw_tbl := List.mem_append_right _ (List.mem_of_getElem? (i := 1445) (by decide +kernel))
theorem kx_1447 : (Jvm.Cond.instanceMethod ({ cls := "CoinJudge$Chain", name := "refuseTransactions", desc := "(LCoinJudge$Block;)I" } : Jvm.MethodName)) ∈ lw_tbl := List.mem_append_right _ (List.mem_of_getElem? (i := 1447) (by decide +kernel))
theorem kx_1448 : (Jvm.Cond.code ({ cls := "CoinJudge$Chain", name := "refuseTransactions", desc := "(LCoinJudge$Block;)I" } : Jvm.MethodName) prog_4_method_14_code (5 : Nat) (Option.some Jvm.ClassFile.FieldType.int)) ∈ lw_tbl := List.mem_append_right _ (List.mem_of_getElem? (i := 1448) (by decide +kernel))
theorem kx_1449 : (Jvm.Cond.methodLink "CoinJudge$Chain" (207 : Nat) ({ cls := "CoinJudge$Chain", name := "hasItsRoot", desc := "(LCoinJudge$Block;)Z" } : Jvm.MethodName)) ∈ lw_tbl := List.mem_append_right _ (List.mem_of_getElem? (i := 1449) (by decide +kernel))
theorem kx_1451 : (Jvm.Cond.instanceMethod ({ cls := "CoinJudge$Chain", name := "hasItsRoot", desc := "(LCoinJudge$Block;)Z" } : Jvm.MethodName)) ∈ lw_tbl := List.mem_append_right _ (List.mem_of_getElem? (i := 1451) (by decide +kernel))
theorem kx_1452 : (Jvm.Cond.code ({ cls := "CoinJudge$Chain", name := "hasItsRoot", desc := "(LCoinJudge$Block;)Z" } : Jvm.MethodName) prog_4_method_15_code (2 : Nat) (Option.some Jvm.ClassFile.FieldType.boolean)) ∈ lw_tbl := List.mem_append_right _ (List.mem_of_getElem? (i := 1452) (by decide +kernel))
theorem kx_1453 : (Jvm.Cond.methodLink "CoinJudge$Chain" (228 : Nat) ({ cls := "CoinJudge$Hasher", name := "root", desc := "([BI[B)V" } : Jvm.MethodName)) ∈ lw_tbl := List.mem_append_right _ (List.mem_of_getElem? (i := 1453) (by decide +kernel))
theorem kx_1454 : (Jvm.Cond.methodLink "CoinJudge$Chain" (211 : Nat) ({ cls := "CoinJudge$Chain", name := "hasSameIds", desc := "(LCoinJudge$Block;)Z" } : Jvm.MethodName)) ∈ lw_tbl := List.mem_append_right _ (List.mem_of_getElem? (i := 1454) (by decide +kernel))
theorem kx_1455 : (Jvm.Cond.static ({ cls := "CoinJudge$Chain", name := "hasSameIds", desc := "(LCoinJudge$Block;)Z" } : Jvm.MethodName)) ∈ lw_tbl := List.mem_append_right _ (List.mem_of_getElem? (i := 1455) (by decide +kernel))
theorem kx_1456 : (Jvm.Cond.code ({ cls := "CoinJudge$Chain", name := "hasSameIds", desc := "(LCoinJudge$Block;)Z" } : Jvm.MethodName) prog_4_method_16_code (3 : Nat) (Option.some Jvm.ClassFile.FieldType.boolean)) ∈ lw_tbl := List.mem_append_right _ (List.mem_of_getElem? (i := 1456) (by decide +kernel))
theorem kx_1457 : (Jvm.Cond.methodLink "CoinJudge$Chain" (136 : Nat) ({ cls := "CoinJudge$TxView", name := "read", desc := "([BII)I" } : Jvm.MethodName)) ∈ lw_tbl := List.mem_append_right _ (List.mem_of_getElem? (i := 1457) (by decide +kernel))
theorem kx_1458 : (Jvm.Cond.methodLink "CoinJudge$Chain" (214 : Nat) ({ cls := "CoinJudge$TxView", name := "refusal", desc := "(Z)I" } : Jvm.MethodName)) ∈ lw_tbl := List.mem_append_right _ (List.mem_of_getElem? (i := 1458) (by decide +kernel))
theorem kx_1459 : (Jvm.Cond.instanceMethod ({ cls := "CoinJudge$TxView", name := "refusal", desc := "(Z)I" } : Jvm.MethodName)) ∈ lw_tbl := List.mem_append_right _ (List.mem_of_getElem? (i := 1459) (by decide +kernel))
theorem kx_1460 : (Jvm.Cond.selects "CoinJudge$TxView" ({ cls := "CoinJudge$TxView", name := "refusal", desc := "(Z)I" } : Jvm.MethodName) ({ cls := "CoinJudge$TxView", name := "refusal", desc := "(Z)I" } : Jvm.MethodName)) ∈ lw_tbl := List.mem_append_right _ (List.mem_of_getElem? (i := 1460) (by decide +kernel))
theorem kx_1480 : (Jvm.Cond.methodLink "CoinJudge$Chain" (218 : Nat) ({ cls := "CoinJudge$TxView", name := "asks", desc := "()I" } : Jvm.MethodName)) ∈ lw_tbl := List.mem_append_right _ (List.mem_of_getElem? (i := 1480) (by decide +kernel))
theorem kx_1481 : (Jvm.Cond.instanceMethod ({ cls := "CoinJudge$TxView", name := "asks", desc := "()I" } : Jvm.MethodName)) ∈ lw_tbl := List.mem_append_right _ (List.mem_of_getElem? (i := 1481) (by decide +kernel))
theorem kx_1482 : (Jvm.Cond.selects "CoinJudge$TxView" ({ cls := "CoinJudge$TxView", name := "asks", desc := "()I" } : Jvm.MethodName) ({ cls := "CoinJudge$TxView", name := "asks", desc := "()I" } : Jvm.MethodName)) ∈ lw_tbl := List.mem_append_right _ (List.mem_of_getElem? (i := 1482) (by decide +kernel))
theorem kx_1487 : (Jvm.Cond.methodLink "CoinJudge$Chain" (221 : Nat) ({ cls := "CoinJudge$TxView", name := "isLast", desc := "(IJ)Z" } : Jvm.MethodName)) ∈ lw_tbl := List.mem_append_right _ (List.mem_of_getElem? (i := 1487) (by decide +kernel))
theorem kx_1488 : (Jvm.Cond.instanceMethod ({ cls := "CoinJudge$TxView", name := "isLast", desc := "(IJ)Z" } : Jvm.MethodName)) ∈ lw_tbl := List.mem_append_right _ (List.mem_of_getElem? (i := 1488) (by decide +kernel))
theorem kx_1489 : (Jvm.Cond.selects "CoinJudge$TxView" ({ cls := "CoinJudge$TxView", name := "isLast", desc := "(IJ)Z" } : Jvm.MethodName) ({ cls := "CoinJudge$TxView", name := "isLast", desc := "(IJ)Z" } : Jvm.MethodName)) ∈ lw_tbl := List.mem_append_right _ (List.mem_of_getElem? (i := 1489) (by decide +kernel))
theorem kx_1500 : (Jvm.Cond.classLink "CoinJudge" (240 : Nat) "java/lang/UnsupportedOperationException") ∈ lw_tbl := List.mem_append_right _ (List.mem_of_getElem? (i := 1500) (by decide +kernel))
theorem kx_1501 : (Jvm.Cond.instantiable "java/lang/UnsupportedOperationException" (6 : Nat)) ∈ lw_tbl := List.mem_append_right _ (List.mem_of_getElem? (i := 1501) (by decide +kernel))
theorem kx_1509 : (Jvm.Cond.methodLink "CoinJudge" (242 : Nat) ({ cls := "java/lang/UnsupportedOperationException", name := "<init>", desc := "()V" } : Jvm.MethodName)) ∈ lw_tbl := List.mem_append_right _ (List.mem_of_getElem? (i := 1509) (by decide +kernel))
theorem kx_1510 : (Jvm.Cond.instanceMethod ({ cls := "java/lang/UnsupportedOperationException", name := "<init>", desc := "()V" } : Jvm.MethodName)) ∈ lw_tbl := List.mem_append_right _ (List.mem_of_getElem? (i := 1510) (by decide +kernel))
theorem kx_1511 : (Jvm.Cond.code ({ cls := "java/lang/UnsupportedOperationException", name := "<init>", desc := "()V" } : Jvm.MethodName) prog_35_method_1_code (1 : Nat) (Option.none : Option Jvm.ClassFile.FieldType)) ∈ lw_tbl := List.mem_append_right _ (List.mem_of_getElem? (i := 1511) (by decide +kernel))
theorem kx_1515 : (Jvm.Cond.methodLink "CoinJudge" (243 : Nat) ({ cls := "CoinJudge$Chain", name := "keep", desc := "()I" } : Jvm.MethodName)) ∈ lw_tbl := List.mem_append_right _ (List.mem_of_getElem? (i := 1515) (by decide +kernel))
theorem kx_1516 : (Jvm.Cond.instanceMethod ({ cls := "CoinJudge$Chain", name := "keep", desc := "()I" } : Jvm.MethodName)) ∈ lw_tbl := List.mem_append_right _ (List.mem_of_getElem? (i := 1516) (by decide +kernel))
theorem kx_1517 : (Jvm.Cond.selects "CoinJudge$Chain" ({ cls := "CoinJudge$Chain", name := "keep", desc := "()I" } : Jvm.MethodName) ({ cls := "CoinJudge$Chain", name := "keep", desc := "()I" } : Jvm.MethodName)) ∈ lw_tbl := List.mem_append_right _ (List.mem_of_getElem? (i := 1517) (by decide +kernel))
theorem kx_1518 : (Jvm.Cond.code ({ cls := "CoinJudge$Chain", name := "keep", desc := "()I" } : Jvm.MethodName) prog_4_method_4_code (2 : Nat) (Option.some Jvm.ClassFile.FieldType.int)) ∈ lw_tbl := List.mem_append_right _ (List.mem_of_getElem? (i := 1518) (by decide +kernel))
theorem kx_1519 : (Jvm.Cond.methodLink "CoinJudge" (250 : Nat) ({ cls := "CoinJudge$Chain", name := "climb", desc := "(I)I" } : Jvm.MethodName)) ∈ lw_tbl := List.mem_append_right _ (List.mem_of_getElem? (i := 1519) (by decide +kernel))
theorem kx_1520 : (Jvm.Cond.instanceMethod ({ cls := "CoinJudge$Chain", name := "climb", desc := "(I)I" } : Jvm.MethodName)) ∈ lw_tbl := List.mem_append_right _ (List.mem_of_getElem? (i := 1520) (by decide +kernel))
theorem kx_1521 : (Jvm.Cond.selects "CoinJudge$Chain" ({ cls := "CoinJudge$Chain", name := "climb", desc := "(I)I" } : Jvm.MethodName) ({ cls := "CoinJudge$Chain", name := "climb", desc := "(I)I" } : Jvm.MethodName)) ∈ lw_tbl := List.mem_append_right _ (List.mem_of_getElem? (i := 1521) (by decide +kernel))
theorem kx_1522 : (Jvm.Cond.code ({ cls := "CoinJudge$Chain", name := "climb", desc := "(I)I" } : Jvm.MethodName) prog_4_method_5_code (4 : Nat) (Option.some Jvm.ClassFile.FieldType.int)) ∈ lw_tbl := List.mem_append_right _ (List.mem_of_getElem? (i := 1522) (by decide +kernel))
theorem kx_1523 : (Jvm.Cond.methodLink "CoinJudge" (256 : Nat) ({ cls := "CoinJudge$Chain", name := "connect", desc := "(I)I" } : Jvm.MethodName)) ∈ lw_tbl := List.mem_append_right _ (List.mem_of_getElem? (i := 1523) (by decide +kernel))
theorem kx_1524 : (Jvm.Cond.instanceMethod ({ cls := "CoinJudge$Chain", name := "connect", desc := "(I)I" } : Jvm.MethodName)) ∈ lw_tbl := List.mem_append_right _ (List.mem_of_getElem? (i := 1524) (by decide +kernel))
theorem kx_1525 : (Jvm.Cond.selects "CoinJudge$Chain" ({ cls := "CoinJudge$Chain", name := "connect", desc := "(I)I" } : Jvm.MethodName) ({ cls := "CoinJudge$Chain", name := "connect", desc := "(I)I" } : Jvm.MethodName)) ∈ lw_tbl := List.mem_append_right _ (List.mem_of_getElem? (i := 1525) (by decide +kernel))
theorem kx_1526 : (Jvm.Cond.code ({ cls := "CoinJudge$Chain", name := "connect", desc := "(I)I" } : Jvm.MethodName) prog_4_method_6_code (14 : Nat) (Option.some Jvm.ClassFile.FieldType.int)) ∈ lw_tbl := List.mem_append_right _ (List.mem_of_getElem? (i := 1526) (by decide +kernel))
theorem kx_1527 : (Jvm.Cond.methodLink "CoinJudge$Chain" (123 : Nat) ({ cls := "CoinJudge$Chain", name := "startFrom", desc := "(I)V" } : Jvm.MethodName)) ∈ lw_tbl := List.mem_append_right _ (List.mem_of_getElem? (i := 1527) (by decide +kernel))
theorem kx_1529 : (Jvm.Cond.instanceMethod ({ cls := "CoinJudge$Chain", name := "startFrom", desc := "(I)V" } : Jvm.MethodName)) ∈ lw_tbl := List.mem_append_right _ (List.mem_of_getElem? (i := 1529) (by decide +kernel))
theorem kx_1530 : (Jvm.Cond.code ({ cls := "CoinJudge$Chain", name := "startFrom", desc := "(I)V" } : Jvm.MethodName) prog_4_method_19_code (2 : Nat) (Option.none : Option Jvm.ClassFile.FieldType)) ∈ lw_tbl := List.mem_append_right _ (List.mem_of_getElem? (i := 1530) (by decide +kernel))
theorem kx_1531 : (Jvm.Cond.methodLink "CoinJudge$Chain" (237 : Nat) ({ cls := "java/lang/System", name := "arraycopy", desc := "(Ljava/lang/Object;ILjava/lang/Object;II)V" } : Jvm.MethodName)) ∈ lw_tbl := List.mem_append_right _ (List.mem_of_getElem? (i := 1531) (by decide +kernel))
theorem kx_1532 : (Jvm.Cond.methodLink "CoinJudge$Chain" (141 : Nat) ({ cls := "CoinJudge$TxView", name := "allValues", desc := "()J" } : Jvm.MethodName)) ∈ lw_tbl := List.mem_append_right _ (List.mem_of_getElem? (i := 1532) (by decide +kernel))
theorem kx_1533 : (Jvm.Cond.instanceMethod ({ cls := "CoinJudge$TxView", name := "allValues", desc := "()J" } : Jvm.MethodName)) ∈ lw_tbl := List.mem_append_right _ (List.mem_of_getElem? (i := 1533) (by decide +kernel))
theorem kx_1534 : (Jvm.Cond.selects "CoinJudge$TxView" ({ cls := "CoinJudge$TxView", name := "allValues", desc := "()J" } : Jvm.MethodName) ({ cls := "CoinJudge$TxView", name := "allValues", desc := "()J" } : Jvm.MethodName)) ∈ lw_tbl := List.mem_append_right _ (List.mem_of_getElem? (i := 1534) (by decide +kernel))
theorem kx_1536 : (Jvm.Cond.methodLink "CoinJudge$Chain" (144 : Nat) ({ cls := "CoinJudge$Chain", name := "findCoins", desc := "(I)I" } : Jvm.MethodName)) ∈ lw_tbl := List.mem_append_right _ (List.mem_of_getElem? (i := 1536) (by decide +kernel))
theorem kx_1538 : (Jvm.Cond.instanceMethod ({ cls := "CoinJudge$Chain", name := "findCoins", desc := "(I)I" } : Jvm.MethodName)) ∈ lw_tbl := List.mem_append_right _ (List.mem_of_getElem? (i := 1538) (by decide +kernel))
theorem kx_1539 : (Jvm.Cond.code ({ cls := "CoinJudge$Chain", name := "findCoins", desc := "(I)I" } : Jvm.MethodName) prog_4_method_20_code (5 : Nat) (Option.some Jvm.ClassFile.FieldType.int)) ∈ lw_tbl := List.mem_append_right _ (List.mem_of_getElem? (i := 1539) (by decide +kernel))
theorem kx_1540 : (Jvm.Cond.constantLong "CoinJudge$Chain" (256 : Nat) (2100000000000000 : Int64)) ∈ lw_tbl := List.mem_append_right _ (List.mem_of_getElem? (i := 1540) (by decide +kernel))
theorem kx_1541 : (Jvm.Cond.methodLink "CoinJudge$Chain" (157 : Nat) ({ cls := "CoinJudge$Chain", name := "scriptAt", desc := "([BI)I" } : Jvm.MethodName)) ∈ lw_tbl := List.mem_append_right _ (List.mem_of_getElem? (i := 1541) (by decide +kernel))
theorem kx_1542 : (Jvm.Cond.static ({ cls := "CoinJudge$Chain", name := "scriptAt", desc := "([BI)I" } : Jvm.MethodName)) ∈ lw_tbl := List.mem_append_right _ (List.mem_of_getElem? (i := 1542) (by decide +kernel))
theorem kx_1543 : (Jvm.Cond.code ({ cls := "CoinJudge$Chain", name := "scriptAt", desc := "([BI)I" } : Jvm.MethodName) prog_4_method_28_code (3 : Nat) (Option.some Jvm.ClassFile.FieldType.int)) ∈ lw_tbl := List.mem_append_right _ (List.mem_of_getElem? (i := 1543) (by decide +kernel))
theorem kx_1544 : (Jvm.Cond.methodLink "CoinJudge$Chain" (160 : Nat) ({ cls := "CoinJudge$Chain", name := "scriptSize", desc := "([BI)I" } : Jvm.MethodName)) ∈ lw_tbl := List.mem_append_right _ (List.mem_of_getElem? (i := 1544) (by decide +kernel))
theorem kx_1545 : (Jvm.Cond.static ({ cls := "CoinJudge$Chain", name := "scriptSize", desc := "([BI)I" } : Jvm.MethodName)) ∈ lw_tbl := List.mem_append_right _ (List.mem_of_getElem? (i := 1545) (by decide +kernel))
theorem kx_1546 : (Jvm.Cond.code ({ cls := "CoinJudge$Chain", name := "scriptSize", desc := "([BI)I" } : Jvm.MethodName) prog_4_method_29_code (3 : Nat) (Option.some Jvm.ClassFile.FieldType.int)) ∈ lw_tbl := List.mem_append_right _ (List.mem_of_getElem? (i := 1546) (by decide +kernel))
theorem kx_1547 : (Jvm.Cond.methodLink "CoinJudge$Chain" (163 : Nat) ({ cls := "CoinJudge$Machine", name := "unlocks", desc := "(LCoinJudge$TxView;I[BII)Z" } : Jvm.MethodName)) ∈ lw_tbl := List.mem_append_right _ (List.mem_of_getElem? (i := 1547) (by decide +kernel))
theorem kx_1548 : (Jvm.Cond.instanceMethod ({ cls := "CoinJudge$Machine", name := "unlocks", desc := "(LCoinJudge$TxView;I[BII)Z" } : Jvm.MethodName)) ∈ lw_tbl := List.mem_append_right _ (List.mem_of_getElem? (i := 1548) (by decide +kernel))
theorem kx_1549 : (Jvm.Cond.selects "CoinJudge$Machine" ({ cls := "CoinJudge$Machine", name := "unlocks", desc := "(LCoinJudge$TxView;I[BII)Z" } : Jvm.MethodName) ({ cls := "CoinJudge$Machine", name := "unlocks", desc := "(LCoinJudge$TxView;I[BII)Z" } : Jvm.MethodName)) ∈ lw_tbl := List.mem_append_right _ (List.mem_of_getElem? (i := 1549) (by decide +kernel))
theorem kx_1723 : (Jvm.Cond.methodLink "CoinJudge$Chain" (169 : Nat) ({ cls := "CoinJudge$Chain", name := "takeCoins", desc := "()V" } : Jvm.MethodName)) ∈ lw_tbl := List.mem_append_right _ (List.mem_of_getElem? (i := 1723) (by decide +kernel))
theorem kx_1725 : (Jvm.Cond.instanceMethod ({ cls := "CoinJudge$Chain", name := "takeCoins", desc := "()V" } : Jvm.MethodName)) ∈ lw_tbl := List.mem_append_right _ (List.mem_of_getElem? (i := 1725) (by decide +kernel))
theorem kx_1726 : (Jvm.Cond.code ({ cls := "CoinJudge$Chain", name := "takeCoins", desc := "()V" } : Jvm.MethodName) prog_4_method_21_code (3 : Nat) (Option.none : Option Jvm.ClassFile.FieldType)) ∈ lw_tbl := List.mem_append_right _ (List.mem_of_getElem? (i := 1726) (by decide +kernel))
theorem kx_1727 : (Jvm.Cond.constantLong "CoinJudge$Chain" (172 : Nat) (5000000000 : Int64)) ∈ lw_tbl := List.mem_append_right _ (List.mem_of_getElem? (i := 1727) (by decide +kernel))
theorem kx_1728 : (Jvm.Cond.methodLink "CoinJudge" (259 : Nat) ({ cls := "CoinJudge$Chain", name := "spoil", desc := "(I)V" } : Jvm.MethodName)) ∈ lw_tbl := List.mem_append_right _ (List.mem_of_getElem? (i := 1728) (by decide +kernel))
theorem kx_1729 : (Jvm.Cond.instanceMethod ({ cls := "CoinJudge$Chain", name := "spoil", desc := "(I)V" } : Jvm.MethodName)) ∈ lw_tbl := List.mem_append_right _ (List.mem_of_getElem? (i := 1729) (by decide +kernel))
theorem kx_1730 : (Jvm.Cond.selects "CoinJudge$Chain" ({ cls := "CoinJudge$Chain", name := "spoil", desc := "(I)V" } : Jvm.MethodName) ({ cls := "CoinJudge$Chain", name := "spoil", desc := "(I)V" } : Jvm.MethodName)) ∈ lw_tbl := List.mem_append_right _ (List.mem_of_getElem? (i := 1730) (by decide +kernel))
theorem kx_1731 : (Jvm.Cond.code ({ cls := "CoinJudge$Chain", name := "spoil", desc := "(I)V" } : Jvm.MethodName) prog_4_method_7_code (3 : Nat) (Option.none : Option Jvm.ClassFile.FieldType)) ∈ lw_tbl := List.mem_append_right _ (List.mem_of_getElem? (i := 1731) (by decide +kernel))
theorem kx_1738 : (Jvm.Cond.code ({ cls := "CoinJudge", name := "tell", desc := "(I)I" } : Jvm.MethodName) prog_1_method_15_code (2 : Nat) (Option.some Jvm.ClassFile.FieldType.int)) ∈ lw_tbl := List.mem_append_right _ (List.mem_of_getElem? (i := 1738) (by decide +kernel))
theorem kx_1745 : (Jvm.Cond.code ({ cls := "CoinJudge", name := "block", desc := "(II)J" } : Jvm.MethodName) prog_1_method_16_code (4 : Nat) (Option.some Jvm.ClassFile.FieldType.long)) ∈ lw_tbl := List.mem_append_right _ (List.mem_of_getElem? (i := 1745) (by decide +kernel))
theorem kx_1746 : (Jvm.Cond.methodLink "CoinJudge" (271 : Nat) ({ cls := "CoinJudge$Chain", name := "standing", desc := "(I)I" } : Jvm.MethodName)) ∈ lw_tbl := List.mem_append_right _ (List.mem_of_getElem? (i := 1746) (by decide +kernel))
theorem kx_1747 : (Jvm.Cond.instanceMethod ({ cls := "CoinJudge$Chain", name := "standing", desc := "(I)I" } : Jvm.MethodName)) ∈ lw_tbl := List.mem_append_right _ (List.mem_of_getElem? (i := 1747) (by decide +kernel))
theorem kx_1748 : (Jvm.Cond.selects "CoinJudge$Chain" ({ cls := "CoinJudge$Chain", name := "standing", desc := "(I)I" } : Jvm.MethodName) ({ cls := "CoinJudge$Chain", name := "standing", desc := "(I)I" } : Jvm.MethodName)) ∈ lw_tbl := List.mem_append_right _ (List.mem_of_getElem? (i := 1748) (by decide +kernel))
theorem kx_1749 : (Jvm.Cond.code ({ cls := "CoinJudge$Chain", name := "standing", desc := "(I)I" } : Jvm.MethodName) prog_4_method_8_code (4 : Nat) (Option.some Jvm.ClassFile.FieldType.int)) ∈ lw_tbl := List.mem_append_right _ (List.mem_of_getElem? (i := 1749) (by decide +kernel))
theorem kx_1750 : (Jvm.Cond.methodLink "CoinJudge" (274 : Nat) ({ cls := "CoinJudge$Block", name := "time", desc := "()J" } : Jvm.MethodName)) ∈ lw_tbl := List.mem_append_right _ (List.mem_of_getElem? (i := 1750) (by decide +kernel))
theorem kx_1751 : (Jvm.Cond.methodLink "CoinJudge" (278 : Nat) ({ cls := "CoinJudge$Block", name := "bits", desc := "()I" } : Jvm.MethodName)) ∈ lw_tbl := List.mem_append_right _ (List.mem_of_getElem? (i := 1751) (by decide +kernel))
theorem kx_1752 : (Jvm.Cond.methodLink "CoinJudge" (287 : Nat) ({ cls := "CoinJudge$Chain", name := "middle", desc := "(I)J" } : Jvm.MethodName)) ∈ lw_tbl := List.mem_append_right _ (List.mem_of_getElem? (i := 1752) (by decide +kernel))
theorem kx_1759 : (Jvm.Cond.code ({ cls := "CoinJudge", name := "coin", desc := "(III)J" } : Jvm.MethodName) prog_1_method_17_code (4 : Nat) (Option.some Jvm.ClassFile.FieldType.long)) ∈ lw_tbl := List.mem_append_right _ (List.mem_of_getElem? (i := 1759) (by decide +kernel))
theorem kx_1760 : (Jvm.Cond.methodLink "CoinJudge" (291 : Nat) ({ cls := "CoinJudge$Chain", name := "valueOf", desc := "([BII)J" } : Jvm.MethodName)) ∈ lw_tbl := List.mem_append_right _ (List.mem_of_getElem? (i := 1760) (by decide +kernel))
theorem kx_1761 : (Jvm.Cond.instanceMethod ({ cls := "CoinJudge$Chain", name := "valueOf", desc := "([BII)J" } : Jvm.MethodName)) ∈ lw_tbl := List.mem_append_right _ (List.mem_of_getElem? (i := 1761) (by decide +kernel))
theorem kx_1762 : (Jvm.Cond.selects "CoinJudge$Chain" ({ cls := "CoinJudge$Chain", name := "valueOf", desc := "([BII)J" } : Jvm.MethodName) ({ cls := "CoinJudge$Chain", name := "valueOf", desc := "([BII)J" } : Jvm.MethodName)) ∈ lw_tbl := List.mem_append_right _ (List.mem_of_getElem? (i := 1762) (by decide +kernel))
theorem kx_1763 : (Jvm.Cond.code ({ cls := "CoinJudge$Chain", name := "valueOf", desc := "([BII)J" } : Jvm.MethodName) prog_4_method_11_code (6 : Nat) (Option.some Jvm.ClassFile.FieldType.long)) ∈ lw_tbl := List.mem_append_right _ (List.mem_of_getElem? (i := 1763) (by decide +kernel))
theorem kx_1764 : (Jvm.Cond.constantLong "CoinJudge$Chain" (195 : Nat) (-1 : Int64)) ∈ lw_tbl := List.mem_append_right _ (List.mem_of_getElem? (i := 1764) (by decide +kernel))
theorem kx_1771 : (Jvm.Cond.code ({ cls := "CoinJudge", name := "word", desc := "(I)J" } : Jvm.MethodName) prog_1_method_19_code (5 : Nat) (Option.some Jvm.ClassFile.FieldType.long)) ∈ lw_tbl := List.mem_append_right _ (List.mem_of_getElem? (i := 1771) (by decide +kernel))
theorem kxp_4 : Cond.selects "CoinJudge" ({ cls := "CoinJudge", name := "keepFirstBlock", desc := "()V" } : MethodName) ({ cls := "CoinJudge", name := "keepFirstBlock", desc := "()V" } : MethodName) ∈ lw_tbl := List.mem_append_left _ (List.mem_of_getElem? (i := 4) (by decide +kernel))
theorem kxp_6 : Cond.selects "CoinJudge" ({ cls := "CoinJudge", name := "draw", desc := "(I[BI)V" } : MethodName) ({ cls := "CoinJudge", name := "draw", desc := "(I[BI)V" } : MethodName) ∈ lw_tbl := List.mem_append_left _ (List.mem_of_getElem? (i := 6) (by decide +kernel))
theorem kxp_7 : Cond.selects "CoinJudge" ({ cls := "CoinJudge", name := "nameDraft", desc := "(I[BI)V" } : MethodName) ({ cls := "CoinJudge", name := "nameDraft", desc := "(I[BI)V" } : MethodName) ∈ lw_tbl := List.mem_append_left _ (List.mem_of_getElem? (i := 7) (by decide +kernel))
theorem kxp_10 : Cond.selects "CoinJudge" ({ cls := "CoinJudge", name := "findNonce", desc := "(IZ)V" } : MethodName) ({ cls := "CoinJudge", name := "findNonce", desc := "(IZ)V" } : MethodName) ∈ lw_tbl := List.mem_append_left _ (List.mem_of_getElem? (i := 10) (by decide +kernel))
theorem kxp_14 : Cond.selects "CoinJudge$Chain" ({ cls := "CoinJudge$Chain", name := "addCoins", desc := "(II)V" } : MethodName) ({ cls := "CoinJudge$Chain", name := "addCoins", desc := "(II)V" } : MethodName) ∈ lw_tbl := List.mem_append_left _ (List.mem_of_getElem? (i := 14) (by decide +kernel))
theorem kxp_15 : Cond.selects "CoinJudge$Chain" ({ cls := "CoinJudge$Chain", name := "placeOf", desc := "([II[BII)I" } : MethodName) ({ cls := "CoinJudge$Chain", name := "placeOf", desc := "([II[BII)I" } : MethodName) ∈ lw_tbl := List.mem_append_left _ (List.mem_of_getElem? (i := 15) (by decide +kernel))
theorem kxp_16 : Cond.selects "CoinJudge$Chain" ({ cls := "CoinJudge$Chain", name := "value", desc := "(I)J" } : MethodName) ({ cls := "CoinJudge$Chain", name := "value", desc := "(I)J" } : MethodName) ∈ lw_tbl := List.mem_append_left _ (List.mem_of_getElem? (i := 16) (by decide +kernel))
theorem kxp_21 : Cond.selects "CoinJudge" ({ cls := "CoinJudge", name := "hasTransaction", desc := "(II)Z" } : MethodName) ({ cls := "CoinJudge", name := "hasTransaction", desc := "(II)Z" } : MethodName) ∈ lw_tbl := List.mem_append_left _ (List.mem_of_getElem? (i := 21) (by decide +kernel))
theorem kxp_25 : Cond.selects "CoinJudge$Chain" ({ cls := "CoinJudge$Chain", name := "numberOf", desc := "([BI)I" } : MethodName) ({ cls := "CoinJudge$Chain", name := "numberOf", desc := "([BI)I" } : MethodName) ∈ lw_tbl := List.mem_append_left _ (List.mem_of_getElem? (i := 25) (by decide +kernel))
theorem kxp_26 : Cond.selects "CoinJudge$Chain" ({ cls := "CoinJudge$Chain", name := "refuseHeader", desc := "(LCoinJudge$Block;)I" } : MethodName) ({ cls := "CoinJudge$Chain", name := "refuseHeader", desc := "(LCoinJudge$Block;)I" } : MethodName) ∈ lw_tbl := List.mem_append_left _ (List.mem_of_getElem? (i := 26) (by decide +kernel))
theorem kxp_27 : Cond.selects "CoinJudge$Chain" ({ cls := "CoinJudge$Chain", name := "refuseTransactions", desc := "(LCoinJudge$Block;)I" } : MethodName) ({ cls := "CoinJudge$Chain", name := "refuseTransactions", desc := "(LCoinJudge$Block;)I" } : MethodName) ∈ lw_tbl := List.mem_append_left _ (List.mem_of_getElem? (i := 27) (by decide +kernel))
theorem kxp_28 : Cond.selects "CoinJudge$Chain" ({ cls := "CoinJudge$Chain", name := "hasItsRoot", desc := "(LCoinJudge$Block;)Z" } : MethodName) ({ cls := "CoinJudge$Chain", name := "hasItsRoot", desc := "(LCoinJudge$Block;)Z" } : MethodName) ∈ lw_tbl := List.mem_append_left _ (List.mem_of_getElem? (i := 28) (by decide +kernel))
theorem kxp_32 : Cond.selects "CoinJudge$Chain" ({ cls := "CoinJudge$Chain", name := "startFrom", desc := "(I)V" } : MethodName) ({ cls := "CoinJudge$Chain", name := "startFrom", desc := "(I)V" } : MethodName) ∈ lw_tbl := List.mem_append_left _ (List.mem_of_getElem? (i := 32) (by decide +kernel))
theorem kxp_33 : Cond.selects "CoinJudge$Chain" ({ cls := "CoinJudge$Chain", name := "findCoins", desc := "(I)I" } : MethodName) ({ cls := "CoinJudge$Chain", name := "findCoins", desc := "(I)I" } : MethodName) ∈ lw_tbl := List.mem_append_left _ (List.mem_of_getElem? (i := 33) (by decide +kernel))
theorem kxp_49 : Cond.selects "CoinJudge$Chain" ({ cls := "CoinJudge$Chain", name := "takeCoins", desc := "()V" } : MethodName) ({ cls := "CoinJudge$Chain", name := "takeCoins", desc := "()V" } : MethodName) ∈ lw_tbl := List.mem_append_left _ (List.mem_of_getElem? (i := 49) (by decide +kernel))

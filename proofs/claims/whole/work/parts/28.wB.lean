theorem cl_X0 : vwCl[3]? = some (RX0, TX0, 11) := rfl
theorem in_X0 : ∀ w ∈ u_ws RX0 TX0 11, w ∈ lw_tbl ∧ goodWord w = true := by decide +kernel
abbrev mX0_init : ks_M := (RX0, cX0_init, 1, none, "<init>")
theorem dX0_init_0 : decode cX0_init 0 = .ok (.aload_n 0, 1) := by decide +kernel
theorem dX0_init_1 : decode cX0_init 1 = .ok (.invokespecial 3, 3) := by decide +kernel
theorem dX0_init_4 : decode cX0_init 4 = .ok (.aload_n 0, 1) := by decide +kernel
theorem dX0_init_5 : decode cX0_init 5 = .ok (.sipush 1600, 3) := by decide +kernel
theorem dX0_init_8 : decode cX0_init 8 = .ok (.newarray .byte, 2) := by decide +kernel
theorem dX0_init_10 : decode cX0_init 10 = .ok (.putfield 9, 3) := by decide +kernel
theorem dX0_init_13 : decode cX0_init 13 = .ok (.aload_n 0, 1) := by decide +kernel
theorem dX0_init_14 : decode cX0_init 14 = .ok (.bipush 13, 2) := by decide +kernel
theorem dX0_init_16 : decode cX0_init 16 = .ok (.newarray .int, 2) := by decide +kernel
theorem dX0_init_18 : decode cX0_init 18 = .ok (.putfield 15, 3) := by decide +kernel
theorem dX0_init_21 : decode cX0_init 21 = .ok (.aload_n 0, 1) := by decide +kernel
theorem dX0_init_22 : decode cX0_init 22 = .ok (.sipush 384, 3) := by decide +kernel
theorem dX0_init_25 : decode cX0_init 25 = .ok (.newarray .byte, 2) := by decide +kernel
theorem dX0_init_27 : decode cX0_init 27 = .ok (.putfield 19, 3) := by decide +kernel
theorem dX0_init_30 : decode cX0_init 30 = .ok (.aload_n 0, 1) := by decide +kernel
theorem dX0_init_31 : decode cX0_init 31 = .ok (.bipush 32, 2) := by decide +kernel
theorem dX0_init_33 : decode cX0_init 33 = .ok (.newarray .byte, 2) := by decide +kernel
theorem dX0_init_35 : decode cX0_init 35 = .ok (.putfield 22, 3) := by decide +kernel
theorem dX0_init_38 : decode cX0_init 38 = .ok (.aload_n 0, 1) := by decide +kernel
theorem dX0_init_39 : decode cX0_init 39 = .ok (.iconst (-1), 1) := by decide +kernel
theorem dX0_init_40 : decode cX0_init 40 = .ok (.putfield 25, 3) := by decide +kernel
theorem dX0_init_43 : decode cX0_init 43 = .ok (.return_, 1) := by decide +kernel
abbrev mX0_read : ks_M := (RX0, cX0_read, 6, (some .boolean), "read")
theorem dX0_read_0 : decode cX0_read 0 = .ok (.aload_n 0, 1) := by decide +kernel
theorem dX0_read_1 : decode cX0_read 1 = .ok (.aload_n 1, 1) := by decide +kernel
theorem dX0_read_2 : decode cX0_read 2 = .ok (.getfield 29, 3) := by decide +kernel
theorem dX0_read_5 : decode cX0_read 5 = .ok (.putfield 34, 3) := by decide +kernel
theorem dX0_read_8 : decode cX0_read 8 = .ok (.aload_n 1, 1) := by decide +kernel
theorem dX0_read_9 : decode cX0_read 9 = .ok (.getfield 35, 3) := by decide +kernel
theorem dX0_read_12 : decode cX0_read 12 = .ok (.iconst 0, 1) := by decide +kernel
theorem dX0_read_13 : decode cX0_read 13 = .ok (.aload_n 0, 1) := by decide +kernel
theorem dX0_read_14 : decode cX0_read 14 = .ok (.getfield 9, 3) := by decide +kernel
theorem dX0_read_17 : decode cX0_read 17 = .ok (.iconst 0, 1) := by decide +kernel
theorem dX0_read_18 : decode cX0_read 18 = .ok (.aload_n 0, 1) := by decide +kernel
theorem dX0_read_19 : decode cX0_read 19 = .ok (.getfield 34, 3) := by decide +kernel
theorem dX0_read_22 : decode cX0_read 22 = .ok (.invokestatic 36, 3) := by decide +kernel
theorem dX0_read_25 : decode cX0_read 25 = .ok (.aload_n 0, 1) := by decide +kernel
theorem dX0_read_26 : decode cX0_read 26 = .ok (.aload_n 0, 1) := by decide +kernel
theorem dX0_read_27 : decode cX0_read 27 = .ok (.getfield 34, 3) := by decide +kernel
theorem dX0_read_30 : decode cX0_read 30 = .ok (.bipush 80, 2) := by decide +kernel
theorem dX0_read_32 : decode cX0_read 32 = .ok (.if_icmp .le 17, 3) := by decide +kernel
theorem dX0_read_35 : decode cX0_read 35 = .ok (.aload_n 0, 1) := by decide +kernel
theorem dX0_read_36 : decode cX0_read 36 = .ok (.getfield 9, 3) := by decide +kernel
theorem dX0_read_39 : decode cX0_read 39 = .ok (.bipush 80, 2) := by decide +kernel
theorem dX0_read_41 : decode cX0_read 41 = .ok (.baload, 1) := by decide +kernel
theorem dX0_read_42 : decode cX0_read 42 = .ok (.sipush 255, 3) := by decide +kernel
theorem dX0_read_45 : decode cX0_read 45 = .ok (.iand, 1) := by decide +kernel
theorem dX0_read_46 : decode cX0_read 46 = .ok (.goto 4, 3) := by decide +kernel
theorem dX0_read_49 : decode cX0_read 49 = .ok (.iconst (-1), 1) := by decide +kernel
theorem dX0_read_50 : decode cX0_read 50 = .ok (.putfield 42, 3) := by decide +kernel
theorem dX0_read_53 : decode cX0_read 53 = .ok (.aload_n 0, 1) := by decide +kernel
theorem dX0_read_54 : decode cX0_read 54 = .ok (.getfield 42, 3) := by decide +kernel
theorem dX0_read_57 : decode cX0_read 57 = .ok (.ifCond .lt 12, 3) := by decide +kernel
theorem dX0_read_60 : decode cX0_read 60 = .ok (.aload_n 0, 1) := by decide +kernel
theorem dX0_read_61 : decode cX0_read 61 = .ok (.getfield 42, 3) := by decide +kernel
theorem dX0_read_64 : decode cX0_read 64 = .ok (.bipush 12, 2) := by decide +kernel
theorem dX0_read_66 : decode cX0_read 66 = .ok (.if_icmp .le 5, 3) := by decide +kernel
theorem dX0_read_69 : decode cX0_read 69 = .ok (.iconst 0, 1) := by decide +kernel
theorem dX0_read_70 : decode cX0_read 70 = .ok (.ireturn, 1) := by decide +kernel
theorem dX0_read_71 : decode cX0_read 71 = .ok (.bipush 81, 2) := by decide +kernel
theorem dX0_read_73 : decode cX0_read 73 = .ok (.istore 4, 2) := by decide +kernel
theorem dX0_read_75 : decode cX0_read 75 = .ok (.iconst 0, 1) := by decide +kernel
theorem dX0_read_76 : decode cX0_read 76 = .ok (.istore 5, 2) := by decide +kernel
theorem dX0_read_78 : decode cX0_read 78 = .ok (.iload 5, 2) := by decide +kernel
theorem dX0_read_80 : decode cX0_read 80 = .ok (.aload_n 0, 1) := by decide +kernel
theorem dX0_read_81 : decode cX0_read 81 = .ok (.getfield 42, 3) := by decide +kernel
theorem dX0_read_84 : decode cX0_read 84 = .ok (.if_icmp .ge 41, 3) := by decide +kernel
theorem dX0_read_87 : decode cX0_read 87 = .ok (.aload_n 0, 1) := by decide +kernel
theorem dX0_read_88 : decode cX0_read 88 = .ok (.getfield 15, 3) := by decide +kernel
theorem dX0_read_91 : decode cX0_read 91 = .ok (.iload 5, 2) := by decide +kernel
theorem dX0_read_93 : decode cX0_read 93 = .ok (.iload 4, 2) := by decide +kernel
theorem dX0_read_95 : decode cX0_read 95 = .ok (.iastore, 1) := by decide +kernel
theorem dX0_read_96 : decode cX0_read 96 = .ok (.aload_n 2, 1) := by decide +kernel
theorem dX0_read_97 : decode cX0_read 97 = .ok (.aload_n 0, 1) := by decide +kernel
theorem dX0_read_98 : decode cX0_read 98 = .ok (.getfield 9, 3) := by decide +kernel
theorem dX0_read_101 : decode cX0_read 101 = .ok (.iload 4, 2) := by decide +kernel
theorem dX0_read_103 : decode cX0_read 103 = .ok (.aload_n 0, 1) := by decide +kernel
theorem dX0_read_104 : decode cX0_read 104 = .ok (.getfield 34, 3) := by decide +kernel
theorem dX0_read_107 : decode cX0_read 107 = .ok (.invokevirtual 45, 3) := by decide +kernel
theorem dX0_read_110 : decode cX0_read 110 = .ok (.istore 4, 2) := by decide +kernel
theorem dX0_read_112 : decode cX0_read 112 = .ok (.iload 4, 2) := by decide +kernel
theorem dX0_read_114 : decode cX0_read 114 = .ok (.ifCond .ge 5, 3) := by decide +kernel
theorem dX0_read_117 : decode cX0_read 117 = .ok (.iconst 0, 1) := by decide +kernel
theorem dX0_read_118 : decode cX0_read 118 = .ok (.ireturn, 1) := by decide +kernel
theorem dX0_read_119 : decode cX0_read 119 = .ok (.iinc 5 1, 3) := by decide +kernel
theorem dX0_read_122 : decode cX0_read 122 = .ok (.goto (-44), 3) := by decide +kernel
theorem dX0_read_125 : decode cX0_read 125 = .ok (.aload_n 0, 1) := by decide +kernel
theorem dX0_read_126 : decode cX0_read 126 = .ok (.getfield 15, 3) := by decide +kernel
theorem dX0_read_129 : decode cX0_read 129 = .ok (.aload_n 0, 1) := by decide +kernel
theorem dX0_read_130 : decode cX0_read 130 = .ok (.getfield 42, 3) := by decide +kernel
theorem dX0_read_133 : decode cX0_read 133 = .ok (.iload 4, 2) := by decide +kernel
theorem dX0_read_135 : decode cX0_read 135 = .ok (.iastore, 1) := by decide +kernel
theorem dX0_read_136 : decode cX0_read 136 = .ok (.iload 4, 2) := by decide +kernel
theorem dX0_read_138 : decode cX0_read 138 = .ok (.aload_n 0, 1) := by decide +kernel
theorem dX0_read_139 : decode cX0_read 139 = .ok (.getfield 34, 3) := by decide +kernel
theorem dX0_read_142 : decode cX0_read 142 = .ok (.if_icmp .eq 5, 3) := by decide +kernel
theorem dX0_read_145 : decode cX0_read 145 = .ok (.iconst 0, 1) := by decide +kernel
theorem dX0_read_146 : decode cX0_read 146 = .ok (.ireturn, 1) := by decide +kernel
theorem dX0_read_147 : decode cX0_read 147 = .ok (.aload_n 3, 1) := by decide +kernel
theorem dX0_read_148 : decode cX0_read 148 = .ok (.aload_n 0, 1) := by decide +kernel
theorem dX0_read_149 : decode cX0_read 149 = .ok (.getfield 9, 3) := by decide +kernel
theorem dX0_read_152 : decode cX0_read 152 = .ok (.iconst 0, 1) := by decide +kernel
theorem dX0_read_153 : decode cX0_read 153 = .ok (.bipush 80, 2) := by decide +kernel
theorem dX0_read_155 : decode cX0_read 155 = .ok (.aload_n 0, 1) := by decide +kernel
theorem dX0_read_156 : decode cX0_read 156 = .ok (.getfield 22, 3) := by decide +kernel
theorem dX0_read_159 : decode cX0_read 159 = .ok (.iconst 0, 1) := by decide +kernel
theorem dX0_read_160 : decode cX0_read 160 = .ok (.invokevirtual 51, 3) := by decide +kernel
theorem dX0_read_163 : decode cX0_read 163 = .ok (.iconst 1, 1) := by decide +kernel
theorem dX0_read_164 : decode cX0_read 164 = .ok (.ireturn, 1) := by decide +kernel
abbrev mX0_nameTransactions : ks_M := (RX0, cX0_nameTransactions, 3, none, "nameTransactions")
theorem dX0_nameTransactions_0 : decode cX0_nameTransactions 0 = .ok (.iconst 0, 1) := by decide +kernel
theorem dX0_nameTransactions_1 : decode cX0_nameTransactions 1 = .ok (.istore_n 2, 1) := by decide +kernel
theorem dX0_nameTransactions_2 : decode cX0_nameTransactions 2 = .ok (.iload_n 2, 1) := by decide +kernel
theorem dX0_nameTransactions_3 : decode cX0_nameTransactions 3 = .ok (.aload_n 0, 1) := by decide +kernel
theorem dX0_nameTransactions_4 : decode cX0_nameTransactions 4 = .ok (.getfield 42, 3) := by decide +kernel
theorem dX0_nameTransactions_7 : decode cX0_nameTransactions 7 = .ok (.if_icmp .ge 46, 3) := by decide +kernel
theorem dX0_nameTransactions_10 : decode cX0_nameTransactions 10 = .ok (.aload_n 1, 1) := by decide +kernel
theorem dX0_nameTransactions_11 : decode cX0_nameTransactions 11 = .ok (.aload_n 0, 1) := by decide +kernel
theorem dX0_nameTransactions_12 : decode cX0_nameTransactions 12 = .ok (.getfield 9, 3) := by decide +kernel
theorem dX0_nameTransactions_15 : decode cX0_nameTransactions 15 = .ok (.aload_n 0, 1) := by decide +kernel
theorem dX0_nameTransactions_16 : decode cX0_nameTransactions 16 = .ok (.getfield 15, 3) := by decide +kernel
theorem dX0_nameTransactions_19 : decode cX0_nameTransactions 19 = .ok (.iload_n 2, 1) := by decide +kernel
theorem dX0_nameTransactions_20 : decode cX0_nameTransactions 20 = .ok (.iaload, 1) := by decide +kernel
theorem dX0_nameTransactions_21 : decode cX0_nameTransactions 21 = .ok (.aload_n 0, 1) := by decide +kernel
theorem dX0_nameTransactions_22 : decode cX0_nameTransactions 22 = .ok (.getfield 15, 3) := by decide +kernel
theorem dX0_nameTransactions_25 : decode cX0_nameTransactions 25 = .ok (.iload_n 2, 1) := by decide +kernel
theorem dX0_nameTransactions_26 : decode cX0_nameTransactions 26 = .ok (.iconst 1, 1) := by decide +kernel
theorem dX0_nameTransactions_27 : decode cX0_nameTransactions 27 = .ok (.iadd, 1) := by decide +kernel
theorem dX0_nameTransactions_28 : decode cX0_nameTransactions 28 = .ok (.iaload, 1) := by decide +kernel
theorem dX0_nameTransactions_29 : decode cX0_nameTransactions 29 = .ok (.aload_n 0, 1) := by decide +kernel
theorem dX0_nameTransactions_30 : decode cX0_nameTransactions 30 = .ok (.getfield 15, 3) := by decide +kernel
theorem dX0_nameTransactions_33 : decode cX0_nameTransactions 33 = .ok (.iload_n 2, 1) := by decide +kernel
theorem dX0_nameTransactions_34 : decode cX0_nameTransactions 34 = .ok (.iaload, 1) := by decide +kernel
theorem dX0_nameTransactions_35 : decode cX0_nameTransactions 35 = .ok (.isub, 1) := by decide +kernel
theorem dX0_nameTransactions_36 : decode cX0_nameTransactions 36 = .ok (.aload_n 0, 1) := by decide +kernel
theorem dX0_nameTransactions_37 : decode cX0_nameTransactions 37 = .ok (.getfield 19, 3) := by decide +kernel
theorem dX0_nameTransactions_40 : decode cX0_nameTransactions 40 = .ok (.bipush 32, 2) := by decide +kernel
theorem dX0_nameTransactions_42 : decode cX0_nameTransactions 42 = .ok (.iload_n 2, 1) := by decide +kernel
theorem dX0_nameTransactions_43 : decode cX0_nameTransactions 43 = .ok (.imul, 1) := by decide +kernel
theorem dX0_nameTransactions_44 : decode cX0_nameTransactions 44 = .ok (.invokevirtual 51, 3) := by decide +kernel
theorem dX0_nameTransactions_47 : decode cX0_nameTransactions 47 = .ok (.iinc 2 1, 3) := by decide +kernel
theorem dX0_nameTransactions_50 : decode cX0_nameTransactions 50 = .ok (.goto (-48), 3) := by decide +kernel
theorem dX0_nameTransactions_53 : decode cX0_nameTransactions 53 = .ok (.return_, 1) := by decide +kernel
abbrev mX0_time : ks_M := (RX0, cX0_time, 1, (some .long), "time")
theorem dX0_time_0 : decode cX0_time 0 = .ok (.aload_n 0, 1) := by decide +kernel
theorem dX0_time_1 : decode cX0_time 1 = .ok (.getfield 9, 3) := by decide +kernel
theorem dX0_time_4 : decode cX0_time 4 = .ok (.bipush 68, 2) := by decide +kernel
theorem dX0_time_6 : decode cX0_time 6 = .ok (.iconst 4, 1) := by decide +kernel
theorem dX0_time_7 : decode cX0_time 7 = .ok (.invokestatic 57, 3) := by decide +kernel
theorem dX0_time_10 : decode cX0_time 10 = .ok (.lreturn, 1) := by decide +kernel
abbrev mX0_bits : ks_M := (RX0, cX0_bits, 1, (some .int), "bits")
theorem dX0_bits_0 : decode cX0_bits 0 = .ok (.aload_n 0, 1) := by decide +kernel
theorem dX0_bits_1 : decode cX0_bits 1 = .ok (.getfield 9, 3) := by decide +kernel
theorem dX0_bits_4 : decode cX0_bits 4 = .ok (.bipush 72, 2) := by decide +kernel
theorem dX0_bits_6 : decode cX0_bits 6 = .ok (.iconst 4, 1) := by decide +kernel
theorem dX0_bits_7 : decode cX0_bits 7 = .ok (.invokestatic 57, 3) := by decide +kernel
theorem dX0_bits_10 : decode cX0_bits 10 = .ok (.l2i, 1) := by decide +kernel
theorem dX0_bits_11 : decode cX0_bits 11 = .ok (.ireturn, 1) := by decide +kernel
theorem cl_X4 : vwCl[7]? = some (RX4, TX4, 10) := rfl
theorem in_X4 : ∀ w ∈ u_ws RX4 TX4 10, w ∈ lw_tbl ∧ goodWord w = true := by decide +kernel
abbrev mX4_init : ks_M := (RX4, cX4_init, 1, none, "<init>")
theorem dX4_init_0 : decode cX4_init 0 = .ok (.aload_n 0, 1) := by decide +kernel
theorem dX4_init_1 : decode cX4_init 1 = .ok (.invokespecial 3, 3) := by decide +kernel
theorem dX4_init_4 : decode cX4_init 4 = .ok (.aload_n 0, 1) := by decide +kernel
theorem dX4_init_5 : decode cX4_init 5 = .ok (.bipush 12, 2) := by decide +kernel
theorem dX4_init_7 : decode cX4_init 7 = .ok (.newarray .int, 2) := by decide +kernel
theorem dX4_init_9 : decode cX4_init 9 = .ok (.putfield 9, 3) := by decide +kernel
theorem dX4_init_12 : decode cX4_init 12 = .ok (.aload_n 0, 1) := by decide +kernel
theorem dX4_init_13 : decode cX4_init 13 = .ok (.sipush 192, 3) := by decide +kernel
theorem dX4_init_16 : decode cX4_init 16 = .ok (.newarray .byte, 2) := by decide +kernel
theorem dX4_init_18 : decode cX4_init 18 = .ok (.putfield 15, 3) := by decide +kernel
theorem dX4_init_21 : decode cX4_init 21 = .ok (.aload_n 0, 1) := by decide +kernel
theorem dX4_init_22 : decode cX4_init 22 = .ok (.bipush 6, 2) := by decide +kernel
theorem dX4_init_24 : decode cX4_init 24 = .ok (.newarray .int, 2) := by decide +kernel
theorem dX4_init_26 : decode cX4_init 26 = .ok (.putfield 19, 3) := by decide +kernel
theorem dX4_init_29 : decode cX4_init 29 = .ok (.aload_n 0, 1) := by decide +kernel
theorem dX4_init_30 : decode cX4_init 30 = .ok (.bipush 6, 2) := by decide +kernel
theorem dX4_init_32 : decode cX4_init 32 = .ok (.newarray .long, 2) := by decide +kernel
theorem dX4_init_34 : decode cX4_init 34 = .ok (.putfield 22, 3) := by decide +kernel
theorem dX4_init_37 : decode cX4_init 37 = .ok (.aload_n 0, 1) := by decide +kernel
theorem dX4_init_38 : decode cX4_init 38 = .ok (.bipush 6, 2) := by decide +kernel
theorem dX4_init_40 : decode cX4_init 40 = .ok (.newarray .long, 2) := by decide +kernel
theorem dX4_init_42 : decode cX4_init 42 = .ok (.putfield 26, 3) := by decide +kernel
theorem dX4_init_45 : decode cX4_init 45 = .ok (.aload_n 0, 1) := by decide +kernel
theorem dX4_init_46 : decode cX4_init 46 = .ok (.bipush 12, 2) := by decide +kernel
theorem dX4_init_48 : decode cX4_init 48 = .ok (.sipush 600, 3) := by decide +kernel
theorem dX4_init_51 : decode cX4_init 51 = .ok (.multianewarray 29 2, 4) := by decide +kernel
theorem dX4_init_55 : decode cX4_init 55 = .ok (.putfield 31, 3) := by decide +kernel
theorem dX4_init_58 : decode cX4_init 58 = .ok (.return_, 1) := by decide +kernel
abbrev mX4_pushSize : ks_M := (RX4, cX4_pushSize, 1, (some .int), "pushSize")
theorem dX4_pushSize_0 : decode cX4_pushSize 0 = .ok (.iload_n 0, 1) := by decide +kernel
theorem dX4_pushSize_1 : decode cX4_pushSize 1 = .ok (.iload_n 0, 1) := by decide +kernel
theorem dX4_pushSize_2 : decode cX4_pushSize 2 = .ok (.bipush 76, 2) := by decide +kernel
theorem dX4_pushSize_4 : decode cX4_pushSize 4 = .ok (.if_icmp .ge 7, 3) := by decide +kernel
theorem dX4_pushSize_7 : decode cX4_pushSize 7 = .ok (.iconst 1, 1) := by decide +kernel
theorem dX4_pushSize_8 : decode cX4_pushSize 8 = .ok (.goto 15, 3) := by decide +kernel
theorem dX4_pushSize_11 : decode cX4_pushSize 11 = .ok (.iload_n 0, 1) := by decide +kernel
theorem dX4_pushSize_12 : decode cX4_pushSize 12 = .ok (.sipush 256, 3) := by decide +kernel
theorem dX4_pushSize_15 : decode cX4_pushSize 15 = .ok (.if_icmp .ge 7, 3) := by decide +kernel
theorem dX4_pushSize_18 : decode cX4_pushSize 18 = .ok (.iconst 2, 1) := by decide +kernel
theorem dX4_pushSize_19 : decode cX4_pushSize 19 = .ok (.goto 4, 3) := by decide +kernel
theorem dX4_pushSize_22 : decode cX4_pushSize 22 = .ok (.iconst 3, 1) := by decide +kernel
theorem dX4_pushSize_23 : decode cX4_pushSize 23 = .ok (.iadd, 1) := by decide +kernel
theorem dX4_pushSize_24 : decode cX4_pushSize 24 = .ok (.ireturn, 1) := by decide +kernel
abbrev mX4_begin : ks_M := (RX4, cX4_begin, 5, none, "begin")
theorem dX4_begin_0 : decode cX4_begin 0 = .ok (.aload_n 0, 1) := by decide +kernel
theorem dX4_begin_1 : decode cX4_begin 1 = .ok (.lload_n 1, 1) := by decide +kernel
theorem dX4_begin_2 : decode cX4_begin 2 = .ok (.putfield 34, 3) := by decide +kernel
theorem dX4_begin_5 : decode cX4_begin 5 = .ok (.aload_n 0, 1) := by decide +kernel
theorem dX4_begin_6 : decode cX4_begin 6 = .ok (.lload_n 3, 1) := by decide +kernel
theorem dX4_begin_7 : decode cX4_begin 7 = .ok (.putfield 38, 3) := by decide +kernel
theorem dX4_begin_10 : decode cX4_begin 10 = .ok (.aload_n 0, 1) := by decide +kernel
theorem dX4_begin_11 : decode cX4_begin 11 = .ok (.iconst 0, 1) := by decide +kernel
theorem dX4_begin_12 : decode cX4_begin 12 = .ok (.putfield 41, 3) := by decide +kernel
theorem dX4_begin_15 : decode cX4_begin 15 = .ok (.aload_n 0, 1) := by decide +kernel
theorem dX4_begin_16 : decode cX4_begin 16 = .ok (.iconst 0, 1) := by decide +kernel
theorem dX4_begin_17 : decode cX4_begin 17 = .ok (.putfield 45, 3) := by decide +kernel
theorem dX4_begin_20 : decode cX4_begin 20 = .ok (.return_, 1) := by decide +kernel
abbrev mX4_addInput : ks_M := (RX4, cX4_addInput, 7, none, "addInput")
theorem dX4_addInput_0 : decode cX4_addInput 0 = .ok (.aload_n 1, 1) := by decide +kernel
theorem dX4_addInput_1 : decode cX4_addInput 1 = .ok (.iload_n 2, 1) := by decide +kernel
theorem dX4_addInput_2 : decode cX4_addInput 2 = .ok (.aload_n 0, 1) := by decide +kernel
theorem dX4_addInput_3 : decode cX4_addInput 3 = .ok (.getfield 15, 3) := by decide +kernel
theorem dX4_addInput_6 : decode cX4_addInput 6 = .ok (.bipush 32, 2) := by decide +kernel
theorem dX4_addInput_8 : decode cX4_addInput 8 = .ok (.aload_n 0, 1) := by decide +kernel
theorem dX4_addInput_9 : decode cX4_addInput 9 = .ok (.getfield 41, 3) := by decide +kernel
theorem dX4_addInput_12 : decode cX4_addInput 12 = .ok (.imul, 1) := by decide +kernel
theorem dX4_addInput_13 : decode cX4_addInput 13 = .ok (.bipush 32, 2) := by decide +kernel
theorem dX4_addInput_15 : decode cX4_addInput 15 = .ok (.invokestatic 48, 3) := by decide +kernel
theorem dX4_addInput_18 : decode cX4_addInput 18 = .ok (.aload_n 0, 1) := by decide +kernel
theorem dX4_addInput_19 : decode cX4_addInput 19 = .ok (.getfield 19, 3) := by decide +kernel
theorem dX4_addInput_22 : decode cX4_addInput 22 = .ok (.aload_n 0, 1) := by decide +kernel
theorem dX4_addInput_23 : decode cX4_addInput 23 = .ok (.getfield 41, 3) := by decide +kernel
theorem dX4_addInput_26 : decode cX4_addInput 26 = .ok (.iload_n 3, 1) := by decide +kernel
theorem dX4_addInput_27 : decode cX4_addInput 27 = .ok (.iastore, 1) := by decide +kernel
theorem dX4_addInput_28 : decode cX4_addInput 28 = .ok (.aload_n 0, 1) := by decide +kernel
theorem dX4_addInput_29 : decode cX4_addInput 29 = .ok (.getfield 22, 3) := by decide +kernel
theorem dX4_addInput_32 : decode cX4_addInput 32 = .ok (.aload_n 0, 1) := by decide +kernel
theorem dX4_addInput_33 : decode cX4_addInput 33 = .ok (.getfield 41, 3) := by decide +kernel
theorem dX4_addInput_36 : decode cX4_addInput 36 = .ok (.lload 4, 2) := by decide +kernel
theorem dX4_addInput_38 : decode cX4_addInput 38 = .ok (.lastore, 1) := by decide +kernel
theorem dX4_addInput_39 : decode cX4_addInput 39 = .ok (.aload_n 0, 1) := by decide +kernel
theorem dX4_addInput_40 : decode cX4_addInput 40 = .ok (.aload_n 0, 1) := by decide +kernel
theorem dX4_addInput_41 : decode cX4_addInput 41 = .ok (.getfield 41, 3) := by decide +kernel
theorem dX4_addInput_44 : decode cX4_addInput 44 = .ok (.aload 6, 2) := by decide +kernel
theorem dX4_addInput_46 : decode cX4_addInput 46 = .ok (.invokevirtual 54, 3) := by decide +kernel
theorem dX4_addInput_49 : decode cX4_addInput 49 = .ok (.aload_n 0, 1) := by decide +kernel
theorem dX4_addInput_50 : decode cX4_addInput 50 = .ok (.dup, 1) := by decide +kernel
theorem dX4_addInput_51 : decode cX4_addInput 51 = .ok (.getfield 41, 3) := by decide +kernel
theorem dX4_addInput_54 : decode cX4_addInput 54 = .ok (.iconst 1, 1) := by decide +kernel
theorem dX4_addInput_55 : decode cX4_addInput 55 = .ok (.iadd, 1) := by decide +kernel
theorem dX4_addInput_56 : decode cX4_addInput 56 = .ok (.putfield 41, 3) := by decide +kernel
theorem dX4_addInput_59 : decode cX4_addInput 59 = .ok (.return_, 1) := by decide +kernel
abbrev mX4_addOutput : ks_M := (RX4, cX4_addOutput, 4, none, "addOutput")
theorem dX4_addOutput_0 : decode cX4_addOutput 0 = .ok (.aload_n 0, 1) := by decide +kernel
theorem dX4_addOutput_1 : decode cX4_addOutput 1 = .ok (.getfield 26, 3) := by decide +kernel
theorem dX4_addOutput_4 : decode cX4_addOutput 4 = .ok (.aload_n 0, 1) := by decide +kernel
theorem dX4_addOutput_5 : decode cX4_addOutput 5 = .ok (.getfield 45, 3) := by decide +kernel
theorem dX4_addOutput_8 : decode cX4_addOutput 8 = .ok (.lload_n 1, 1) := by decide +kernel
theorem dX4_addOutput_9 : decode cX4_addOutput 9 = .ok (.lastore, 1) := by decide +kernel
theorem dX4_addOutput_10 : decode cX4_addOutput 10 = .ok (.aload_n 0, 1) := by decide +kernel
theorem dX4_addOutput_11 : decode cX4_addOutput 11 = .ok (.bipush 6, 2) := by decide +kernel
theorem dX4_addOutput_13 : decode cX4_addOutput 13 = .ok (.aload_n 0, 1) := by decide +kernel
theorem dX4_addOutput_14 : decode cX4_addOutput 14 = .ok (.getfield 45, 3) := by decide +kernel
theorem dX4_addOutput_17 : decode cX4_addOutput 17 = .ok (.iadd, 1) := by decide +kernel
theorem dX4_addOutput_18 : decode cX4_addOutput 18 = .ok (.aload_n 3, 1) := by decide +kernel
theorem dX4_addOutput_19 : decode cX4_addOutput 19 = .ok (.invokevirtual 54, 3) := by decide +kernel
theorem dX4_addOutput_22 : decode cX4_addOutput 22 = .ok (.aload_n 0, 1) := by decide +kernel
theorem dX4_addOutput_23 : decode cX4_addOutput 23 = .ok (.dup, 1) := by decide +kernel
theorem dX4_addOutput_24 : decode cX4_addOutput 24 = .ok (.getfield 45, 3) := by decide +kernel
theorem dX4_addOutput_27 : decode cX4_addOutput 27 = .ok (.iconst 1, 1) := by decide +kernel
theorem dX4_addOutput_28 : decode cX4_addOutput 28 = .ok (.iadd, 1) := by decide +kernel
theorem dX4_addOutput_29 : decode cX4_addOutput 29 = .ok (.putfield 45, 3) := by decide +kernel
theorem dX4_addOutput_32 : decode cX4_addOutput 32 = .ok (.return_, 1) := by decide +kernel
abbrev mX4_addPush : ks_M := (RX4, cX4_addPush, 6, none, "addPush")
theorem dX4_addPush_0 : decode cX4_addPush 0 = .ok (.aload_n 0, 1) := by decide +kernel
theorem dX4_addPush_1 : decode cX4_addPush 1 = .ok (.getfield 31, 3) := by decide +kernel
theorem dX4_addPush_4 : decode cX4_addPush 4 = .ok (.iload_n 1, 1) := by decide +kernel
theorem dX4_addPush_5 : decode cX4_addPush 5 = .ok (.aaload, 1) := by decide +kernel
theorem dX4_addPush_6 : decode cX4_addPush 6 = .ok (.astore_n 3, 1) := by decide +kernel
theorem dX4_addPush_7 : decode cX4_addPush 7 = .ok (.aload_n 0, 1) := by decide +kernel
theorem dX4_addPush_8 : decode cX4_addPush 8 = .ok (.getfield 9, 3) := by decide +kernel
theorem dX4_addPush_11 : decode cX4_addPush 11 = .ok (.iload_n 1, 1) := by decide +kernel
theorem dX4_addPush_12 : decode cX4_addPush 12 = .ok (.iaload, 1) := by decide +kernel
theorem dX4_addPush_13 : decode cX4_addPush 13 = .ok (.istore 4, 2) := by decide +kernel
theorem dX4_addPush_15 : decode cX4_addPush 15 = .ok (.aload_n 2, 1) := by decide +kernel
theorem dX4_addPush_16 : decode cX4_addPush 16 = .ok (.getfield 58, 3) := by decide +kernel
theorem dX4_addPush_19 : decode cX4_addPush 19 = .ok (.istore 5, 2) := by decide +kernel
theorem dX4_addPush_21 : decode cX4_addPush 21 = .ok (.iload 5, 2) := by decide +kernel
theorem dX4_addPush_23 : decode cX4_addPush 23 = .ok (.bipush 76, 2) := by decide +kernel
theorem dX4_addPush_25 : decode cX4_addPush 25 = .ok (.if_icmp .ge 13, 3) := by decide +kernel
theorem dX4_addPush_28 : decode cX4_addPush 28 = .ok (.aload_n 3, 1) := by decide +kernel
theorem dX4_addPush_29 : decode cX4_addPush 29 = .ok (.iload 4, 2) := by decide +kernel
theorem dX4_addPush_31 : decode cX4_addPush 31 = .ok (.iload 5, 2) := by decide +kernel
theorem dX4_addPush_33 : decode cX4_addPush 33 = .ok (.i2b, 1) := by decide +kernel
theorem dX4_addPush_34 : decode cX4_addPush 34 = .ok (.bastore, 1) := by decide +kernel
theorem dX4_addPush_35 : decode cX4_addPush 35 = .ok (.goto 56, 3) := by decide +kernel
theorem dX4_addPush_38 : decode cX4_addPush 38 = .ok (.iload 5, 2) := by decide +kernel
theorem dX4_addPush_40 : decode cX4_addPush 40 = .ok (.sipush 256, 3) := by decide +kernel
theorem dX4_addPush_43 : decode cX4_addPush 43 = .ok (.if_icmp .ge 21, 3) := by decide +kernel
theorem dX4_addPush_46 : decode cX4_addPush 46 = .ok (.aload_n 3, 1) := by decide +kernel
theorem dX4_addPush_47 : decode cX4_addPush 47 = .ok (.iload 4, 2) := by decide +kernel
theorem dX4_addPush_49 : decode cX4_addPush 49 = .ok (.bipush 76, 2) := by decide +kernel
theorem dX4_addPush_51 : decode cX4_addPush 51 = .ok (.bastore, 1) := by decide +kernel
theorem dX4_addPush_52 : decode cX4_addPush 52 = .ok (.aload_n 3, 1) := by decide +kernel
theorem dX4_addPush_53 : decode cX4_addPush 53 = .ok (.iload 4, 2) := by decide +kernel
theorem dX4_addPush_55 : decode cX4_addPush 55 = .ok (.iconst 1, 1) := by decide +kernel
theorem dX4_addPush_56 : decode cX4_addPush 56 = .ok (.iadd, 1) := by decide +kernel
theorem dX4_addPush_57 : decode cX4_addPush 57 = .ok (.iload 5, 2) := by decide +kernel
theorem dX4_addPush_59 : decode cX4_addPush 59 = .ok (.i2b, 1) := by decide +kernel
theorem dX4_addPush_60 : decode cX4_addPush 60 = .ok (.bastore, 1) := by decide +kernel
theorem dX4_addPush_61 : decode cX4_addPush 61 = .ok (.goto 30, 3) := by decide +kernel
theorem dX4_addPush_64 : decode cX4_addPush 64 = .ok (.aload_n 3, 1) := by decide +kernel
theorem dX4_addPush_65 : decode cX4_addPush 65 = .ok (.iload 4, 2) := by decide +kernel
theorem dX4_addPush_67 : decode cX4_addPush 67 = .ok (.bipush 77, 2) := by decide +kernel
theorem dX4_addPush_69 : decode cX4_addPush 69 = .ok (.bastore, 1) := by decide +kernel
theorem dX4_addPush_70 : decode cX4_addPush 70 = .ok (.aload_n 3, 1) := by decide +kernel
theorem dX4_addPush_71 : decode cX4_addPush 71 = .ok (.iload 4, 2) := by decide +kernel
theorem dX4_addPush_73 : decode cX4_addPush 73 = .ok (.iconst 1, 1) := by decide +kernel
theorem dX4_addPush_74 : decode cX4_addPush 74 = .ok (.iadd, 1) := by decide +kernel
theorem dX4_addPush_75 : decode cX4_addPush 75 = .ok (.iload 5, 2) := by decide +kernel
theorem dX4_addPush_77 : decode cX4_addPush 77 = .ok (.i2b, 1) := by decide +kernel
theorem dX4_addPush_78 : decode cX4_addPush 78 = .ok (.bastore, 1) := by decide +kernel
theorem dX4_addPush_79 : decode cX4_addPush 79 = .ok (.aload_n 3, 1) := by decide +kernel
theorem dX4_addPush_80 : decode cX4_addPush 80 = .ok (.iload 4, 2) := by decide +kernel
theorem dX4_addPush_82 : decode cX4_addPush 82 = .ok (.iconst 2, 1) := by decide +kernel
theorem dX4_addPush_83 : decode cX4_addPush 83 = .ok (.iadd, 1) := by decide +kernel
theorem dX4_addPush_84 : decode cX4_addPush 84 = .ok (.iload 5, 2) := by decide +kernel
theorem dX4_addPush_86 : decode cX4_addPush 86 = .ok (.bipush 8, 2) := by decide +kernel
theorem dX4_addPush_88 : decode cX4_addPush 88 = .ok (.iushr, 1) := by decide +kernel
theorem dX4_addPush_89 : decode cX4_addPush 89 = .ok (.i2b, 1) := by decide +kernel
theorem dX4_addPush_90 : decode cX4_addPush 90 = .ok (.bastore, 1) := by decide +kernel
theorem dX4_addPush_91 : decode cX4_addPush 91 = .ok (.aload_n 0, 1) := by decide +kernel
theorem dX4_addPush_92 : decode cX4_addPush 92 = .ok (.getfield 9, 3) := by decide +kernel
theorem dX4_addPush_95 : decode cX4_addPush 95 = .ok (.iload_n 1, 1) := by decide +kernel
theorem dX4_addPush_96 : decode cX4_addPush 96 = .ok (.dup2, 1) := by decide +kernel
theorem dX4_addPush_97 : decode cX4_addPush 97 = .ok (.iaload, 1) := by decide +kernel
theorem dX4_addPush_98 : decode cX4_addPush 98 = .ok (.iload 5, 2) := by decide +kernel
theorem dX4_addPush_100 : decode cX4_addPush 100 = .ok (.invokestatic 63, 3) := by decide +kernel
theorem dX4_addPush_103 : decode cX4_addPush 103 = .ok (.iadd, 1) := by decide +kernel
theorem dX4_addPush_104 : decode cX4_addPush 104 = .ok (.iastore, 1) := by decide +kernel
theorem dX4_addPush_105 : decode cX4_addPush 105 = .ok (.aload_n 2, 1) := by decide +kernel
theorem dX4_addPush_106 : decode cX4_addPush 106 = .ok (.getfield 67, 3) := by decide +kernel
theorem dX4_addPush_109 : decode cX4_addPush 109 = .ok (.iconst 0, 1) := by decide +kernel
theorem dX4_addPush_110 : decode cX4_addPush 110 = .ok (.aload_n 3, 1) := by decide +kernel
theorem dX4_addPush_111 : decode cX4_addPush 111 = .ok (.aload_n 0, 1) := by decide +kernel
theorem dX4_addPush_112 : decode cX4_addPush 112 = .ok (.getfield 9, 3) := by decide +kernel
theorem dX4_addPush_115 : decode cX4_addPush 115 = .ok (.iload_n 1, 1) := by decide +kernel
theorem dX4_addPush_116 : decode cX4_addPush 116 = .ok (.iaload, 1) := by decide +kernel
theorem dX4_addPush_117 : decode cX4_addPush 117 = .ok (.iload 5, 2) := by decide +kernel
theorem dX4_addPush_119 : decode cX4_addPush 119 = .ok (.isub, 1) := by decide +kernel
theorem dX4_addPush_120 : decode cX4_addPush 120 = .ok (.iload 5, 2) := by decide +kernel
theorem dX4_addPush_122 : decode cX4_addPush 122 = .ok (.invokestatic 48, 3) := by decide +kernel
theorem dX4_addPush_125 : decode cX4_addPush 125 = .ok (.return_, 1) := by decide +kernel
abbrev mX4_write : ks_M := (RX4, cX4_write, 4, none, "write")
theorem dX4_write_0 : decode cX4_write 0 = .ok (.aload_n 1, 1) := by decide +kernel
theorem dX4_write_1 : decode cX4_write 1 = .ok (.aload_n 0, 1) := by decide +kernel
theorem dX4_write_2 : decode cX4_write 2 = .ok (.getfield 34, 3) := by decide +kernel
theorem dX4_write_5 : decode cX4_write 5 = .ok (.iconst 4, 1) := by decide +kernel
theorem dX4_write_6 : decode cX4_write 6 = .ok (.invokevirtual 70, 3) := by decide +kernel
theorem dX4_write_9 : decode cX4_write 9 = .ok (.aload_n 1, 1) := by decide +kernel
theorem dX4_write_10 : decode cX4_write 10 = .ok (.aload_n 0, 1) := by decide +kernel
theorem dX4_write_11 : decode cX4_write 11 = .ok (.getfield 41, 3) := by decide +kernel
theorem dX4_write_14 : decode cX4_write 14 = .ok (.invokevirtual 74, 3) := by decide +kernel
theorem dX4_write_17 : decode cX4_write 17 = .ok (.iconst 0, 1) := by decide +kernel
theorem dX4_write_18 : decode cX4_write 18 = .ok (.istore_n 2, 1) := by decide +kernel
theorem dX4_write_19 : decode cX4_write 19 = .ok (.iload_n 2, 1) := by decide +kernel
theorem dX4_write_20 : decode cX4_write 20 = .ok (.aload_n 0, 1) := by decide +kernel
theorem dX4_write_21 : decode cX4_write 21 = .ok (.getfield 41, 3) := by decide +kernel
theorem dX4_write_24 : decode cX4_write 24 = .ok (.if_icmp .ge 73, 3) := by decide +kernel
theorem dX4_write_27 : decode cX4_write 27 = .ok (.aload_n 1, 1) := by decide +kernel
theorem dX4_write_28 : decode cX4_write 28 = .ok (.aload_n 0, 1) := by decide +kernel
theorem dX4_write_29 : decode cX4_write 29 = .ok (.getfield 15, 3) := by decide +kernel
theorem dX4_write_32 : decode cX4_write 32 = .ok (.bipush 32, 2) := by decide +kernel
theorem dX4_write_34 : decode cX4_write 34 = .ok (.iload_n 2, 1) := by decide +kernel
theorem dX4_write_35 : decode cX4_write 35 = .ok (.imul, 1) := by decide +kernel
theorem dX4_write_36 : decode cX4_write 36 = .ok (.bipush 32, 2) := by decide +kernel
theorem dX4_write_38 : decode cX4_write 38 = .ok (.invokevirtual 78, 3) := by decide +kernel
theorem dX4_write_41 : decode cX4_write 41 = .ok (.aload_n 1, 1) := by decide +kernel
theorem dX4_write_42 : decode cX4_write 42 = .ok (.aload_n 0, 1) := by decide +kernel
theorem dX4_write_43 : decode cX4_write 43 = .ok (.getfield 19, 3) := by decide +kernel
theorem dX4_write_46 : decode cX4_write 46 = .ok (.iload_n 2, 1) := by decide +kernel
theorem dX4_write_47 : decode cX4_write 47 = .ok (.iaload, 1) := by decide +kernel
theorem dX4_write_48 : decode cX4_write 48 = .ok (.i2l, 1) := by decide +kernel
theorem dX4_write_49 : decode cX4_write 49 = .ok (.iconst 4, 1) := by decide +kernel
theorem dX4_write_50 : decode cX4_write 50 = .ok (.invokevirtual 70, 3) := by decide +kernel
theorem dX4_write_53 : decode cX4_write 53 = .ok (.aload_n 1, 1) := by decide +kernel
theorem dX4_write_54 : decode cX4_write 54 = .ok (.aload_n 0, 1) := by decide +kernel
theorem dX4_write_55 : decode cX4_write 55 = .ok (.getfield 9, 3) := by decide +kernel
theorem dX4_write_58 : decode cX4_write 58 = .ok (.iload_n 2, 1) := by decide +kernel
theorem dX4_write_59 : decode cX4_write 59 = .ok (.iaload, 1) := by decide +kernel
theorem dX4_write_60 : decode cX4_write 60 = .ok (.invokevirtual 74, 3) := by decide +kernel
theorem dX4_write_63 : decode cX4_write 63 = .ok (.aload_n 1, 1) := by decide +kernel
theorem dX4_write_64 : decode cX4_write 64 = .ok (.aload_n 0, 1) := by decide +kernel
theorem dX4_write_65 : decode cX4_write 65 = .ok (.getfield 31, 3) := by decide +kernel
theorem dX4_write_68 : decode cX4_write 68 = .ok (.iload_n 2, 1) := by decide +kernel
theorem dX4_write_69 : decode cX4_write 69 = .ok (.aaload, 1) := by decide +kernel
theorem dX4_write_70 : decode cX4_write 70 = .ok (.iconst 0, 1) := by decide +kernel
theorem dX4_write_71 : decode cX4_write 71 = .ok (.aload_n 0, 1) := by decide +kernel
theorem dX4_write_72 : decode cX4_write 72 = .ok (.getfield 9, 3) := by decide +kernel
theorem dX4_write_75 : decode cX4_write 75 = .ok (.iload_n 2, 1) := by decide +kernel
theorem dX4_write_76 : decode cX4_write 76 = .ok (.iaload, 1) := by decide +kernel
theorem dX4_write_77 : decode cX4_write 77 = .ok (.invokevirtual 78, 3) := by decide +kernel
theorem dX4_write_80 : decode cX4_write 80 = .ok (.aload_n 1, 1) := by decide +kernel
theorem dX4_write_81 : decode cX4_write 81 = .ok (.aload_n 0, 1) := by decide +kernel
theorem dX4_write_82 : decode cX4_write 82 = .ok (.getfield 22, 3) := by decide +kernel
theorem dX4_write_85 : decode cX4_write 85 = .ok (.iload_n 2, 1) := by decide +kernel
theorem dX4_write_86 : decode cX4_write 86 = .ok (.laload, 1) := by decide +kernel
theorem dX4_write_87 : decode cX4_write 87 = .ok (.iconst 4, 1) := by decide +kernel
theorem dX4_write_88 : decode cX4_write 88 = .ok (.invokevirtual 70, 3) := by decide +kernel
theorem dX4_write_91 : decode cX4_write 91 = .ok (.iinc 2 1, 3) := by decide +kernel
theorem dX4_write_94 : decode cX4_write 94 = .ok (.goto (-75), 3) := by decide +kernel
theorem dX4_write_97 : decode cX4_write 97 = .ok (.aload_n 1, 1) := by decide +kernel
theorem dX4_write_98 : decode cX4_write 98 = .ok (.aload_n 0, 1) := by decide +kernel
theorem dX4_write_99 : decode cX4_write 99 = .ok (.getfield 45, 3) := by decide +kernel
theorem dX4_write_102 : decode cX4_write 102 = .ok (.invokevirtual 74, 3) := by decide +kernel
theorem dX4_write_105 : decode cX4_write 105 = .ok (.iconst 0, 1) := by decide +kernel
theorem dX4_write_106 : decode cX4_write 106 = .ok (.istore_n 2, 1) := by decide +kernel
theorem dX4_write_107 : decode cX4_write 107 = .ok (.iload_n 2, 1) := by decide +kernel
theorem dX4_write_108 : decode cX4_write 108 = .ok (.aload_n 0, 1) := by decide +kernel
theorem dX4_write_109 : decode cX4_write 109 = .ok (.getfield 45, 3) := by decide +kernel
theorem dX4_write_112 : decode cX4_write 112 = .ok (.if_icmp .ge 53, 3) := by decide +kernel
theorem dX4_write_115 : decode cX4_write 115 = .ok (.bipush 6, 2) := by decide +kernel
theorem dX4_write_117 : decode cX4_write 117 = .ok (.iload_n 2, 1) := by decide +kernel
theorem dX4_write_118 : decode cX4_write 118 = .ok (.iadd, 1) := by decide +kernel
theorem dX4_write_119 : decode cX4_write 119 = .ok (.istore_n 3, 1) := by decide +kernel
theorem dX4_write_120 : decode cX4_write 120 = .ok (.aload_n 1, 1) := by decide +kernel
theorem dX4_write_121 : decode cX4_write 121 = .ok (.aload_n 0, 1) := by decide +kernel
theorem dX4_write_122 : decode cX4_write 122 = .ok (.getfield 26, 3) := by decide +kernel
theorem dX4_write_125 : decode cX4_write 125 = .ok (.iload_n 2, 1) := by decide +kernel
theorem dX4_write_126 : decode cX4_write 126 = .ok (.laload, 1) := by decide +kernel
theorem dX4_write_127 : decode cX4_write 127 = .ok (.bipush 8, 2) := by decide +kernel
theorem dX4_write_129 : decode cX4_write 129 = .ok (.invokevirtual 70, 3) := by decide +kernel
theorem dX4_write_132 : decode cX4_write 132 = .ok (.aload_n 1, 1) := by decide +kernel
theorem dX4_write_133 : decode cX4_write 133 = .ok (.aload_n 0, 1) := by decide +kernel
theorem dX4_write_134 : decode cX4_write 134 = .ok (.getfield 9, 3) := by decide +kernel
theorem dX4_write_137 : decode cX4_write 137 = .ok (.iload_n 3, 1) := by decide +kernel
theorem dX4_write_138 : decode cX4_write 138 = .ok (.iaload, 1) := by decide +kernel
theorem dX4_write_139 : decode cX4_write 139 = .ok (.invokevirtual 74, 3) := by decide +kernel
theorem dX4_write_142 : decode cX4_write 142 = .ok (.aload_n 1, 1) := by decide +kernel
theorem dX4_write_143 : decode cX4_write 143 = .ok (.aload_n 0, 1) := by decide +kernel
theorem dX4_write_144 : decode cX4_write 144 = .ok (.getfield 31, 3) := by decide +kernel
theorem dX4_write_147 : decode cX4_write 147 = .ok (.iload_n 3, 1) := by decide +kernel
theorem dX4_write_148 : decode cX4_write 148 = .ok (.aaload, 1) := by decide +kernel
theorem dX4_write_149 : decode cX4_write 149 = .ok (.iconst 0, 1) := by decide +kernel
theorem dX4_write_150 : decode cX4_write 150 = .ok (.aload_n 0, 1) := by decide +kernel
theorem dX4_write_151 : decode cX4_write 151 = .ok (.getfield 9, 3) := by decide +kernel
theorem dX4_write_154 : decode cX4_write 154 = .ok (.iload_n 3, 1) := by decide +kernel
theorem dX4_write_155 : decode cX4_write 155 = .ok (.iaload, 1) := by decide +kernel
theorem dX4_write_156 : decode cX4_write 156 = .ok (.invokevirtual 78, 3) := by decide +kernel
theorem dX4_write_159 : decode cX4_write 159 = .ok (.iinc 2 1, 3) := by decide +kernel
theorem dX4_write_162 : decode cX4_write 162 = .ok (.goto (-55), 3) := by decide +kernel
theorem dX4_write_165 : decode cX4_write 165 = .ok (.aload_n 1, 1) := by decide +kernel
theorem dX4_write_166 : decode cX4_write 166 = .ok (.aload_n 0, 1) := by decide +kernel
theorem dX4_write_167 : decode cX4_write 167 = .ok (.getfield 38, 3) := by decide +kernel
theorem dX4_write_170 : decode cX4_write 170 = .ok (.iconst 4, 1) := by decide +kernel
theorem dX4_write_171 : decode cX4_write 171 = .ok (.invokevirtual 70, 3) := by decide +kernel
theorem dX4_write_174 : decode cX4_write 174 = .ok (.return_, 1) := by decide +kernel
abbrev mX4_takeScript : ks_M := (RX4, cX4_takeScript, 3, none, "takeScript")
theorem dX4_takeScript_0 : decode cX4_takeScript 0 = .ok (.aload_n 2, 1) := by decide +kernel
theorem dX4_takeScript_1 : decode cX4_takeScript 1 = .ok (.getfield 67, 3) := by decide +kernel
theorem dX4_takeScript_4 : decode cX4_takeScript 4 = .ok (.iconst 0, 1) := by decide +kernel
theorem dX4_takeScript_5 : decode cX4_takeScript 5 = .ok (.aload_n 0, 1) := by decide +kernel
theorem dX4_takeScript_6 : decode cX4_takeScript 6 = .ok (.getfield 31, 3) := by decide +kernel
theorem dX4_takeScript_9 : decode cX4_takeScript 9 = .ok (.iload_n 1, 1) := by decide +kernel
theorem dX4_takeScript_10 : decode cX4_takeScript 10 = .ok (.aaload, 1) := by decide +kernel
theorem dX4_takeScript_11 : decode cX4_takeScript 11 = .ok (.iconst 0, 1) := by decide +kernel
theorem dX4_takeScript_12 : decode cX4_takeScript 12 = .ok (.aload_n 2, 1) := by decide +kernel
theorem dX4_takeScript_13 : decode cX4_takeScript 13 = .ok (.getfield 58, 3) := by decide +kernel
theorem dX4_takeScript_16 : decode cX4_takeScript 16 = .ok (.invokestatic 48, 3) := by decide +kernel
theorem dX4_takeScript_19 : decode cX4_takeScript 19 = .ok (.aload_n 0, 1) := by decide +kernel
theorem dX4_takeScript_20 : decode cX4_takeScript 20 = .ok (.getfield 9, 3) := by decide +kernel
theorem dX4_takeScript_23 : decode cX4_takeScript 23 = .ok (.iload_n 1, 1) := by decide +kernel
theorem dX4_takeScript_24 : decode cX4_takeScript 24 = .ok (.aload_n 2, 1) := by decide +kernel
theorem dX4_takeScript_25 : decode cX4_takeScript 25 = .ok (.getfield 58, 3) := by decide +kernel
theorem dX4_takeScript_28 : decode cX4_takeScript 28 = .ok (.iastore, 1) := by decide +kernel
theorem dX4_takeScript_29 : decode cX4_takeScript 29 = .ok (.return_, 1) := by decide +kernel
theorem cl_X8 : vwCl[11]? = some (RX8, TX8, 9) := rfl
theorem in_X8 : ∀ w ∈ u_ws RX8 TX8 9, w ∈ lw_tbl ∧ goodWord w = true := by decide +kernel
abbrev mX8_init : ks_M := (RX8, cX8_init, 1, none, "<init>")
theorem dX8_init_0 : decode cX8_init 0 = .ok (.aload_n 0, 1) := by decide +kernel
theorem dX8_init_1 : decode cX8_init 1 = .ok (.invokespecial 5, 3) := by decide +kernel
theorem dX8_init_4 : decode cX8_init 4 = .ok (.aload_n 0, 1) := by decide +kernel
theorem dX8_init_5 : decode cX8_init 5 = .ok (.sipush 24096, 3) := by decide +kernel
theorem dX8_init_8 : decode cX8_init 8 = .ok (.newarray .byte, 2) := by decide +kernel
theorem dX8_init_10 : decode cX8_init 10 = .ok (.putfield 11, 3) := by decide +kernel
theorem dX8_init_13 : decode cX8_init 13 = .ok (.aload_n 0, 1) := by decide +kernel
theorem dX8_init_14 : decode cX8_init 14 = .ok (.sipush 1004, 3) := by decide +kernel
theorem dX8_init_17 : decode cX8_init 17 = .ok (.newarray .int, 2) := by decide +kernel
theorem dX8_init_19 : decode cX8_init 19 = .ok (.putfield 15, 3) := by decide +kernel
theorem dX8_init_22 : decode cX8_init 22 = .ok (.aload_n 0, 1) := by decide +kernel
theorem dX8_init_23 : decode cX8_init 23 = .ok (.sipush 1004, 3) := by decide +kernel
theorem dX8_init_26 : decode cX8_init 26 = .ok (.newarray .int, 2) := by decide +kernel
theorem dX8_init_28 : decode cX8_init 28 = .ok (.putfield 19, 3) := by decide +kernel
theorem dX8_init_31 : decode cX8_init 31 = .ok (.aload_n 0, 1) := by decide +kernel
theorem dX8_init_32 : decode cX8_init 32 = .ok (.sipush 1004, 3) := by decide +kernel
theorem dX8_init_35 : decode cX8_init 35 = .ok (.newarray .int, 2) := by decide +kernel
theorem dX8_init_37 : decode cX8_init 37 = .ok (.putfield 22, 3) := by decide +kernel
theorem dX8_init_40 : decode cX8_init 40 = .ok (.aload_n 0, 1) := by decide +kernel
theorem dX8_init_41 : decode cX8_init 41 = .ok (.sipush 1004, 3) := by decide +kernel
theorem dX8_init_44 : decode cX8_init 44 = .ok (.newarray .int, 2) := by decide +kernel
theorem dX8_init_46 : decode cX8_init 46 = .ok (.putfield 25, 3) := by decide +kernel
theorem dX8_init_49 : decode cX8_init 49 = .ok (.aload_n 0, 1) := by decide +kernel
theorem dX8_init_50 : decode cX8_init 50 = .ok (.bipush 8, 2) := by decide +kernel
theorem dX8_init_52 : decode cX8_init 52 = .ok (.newarray .byte, 2) := by decide +kernel
theorem dX8_init_54 : decode cX8_init 54 = .ok (.putfield 28, 3) := by decide +kernel
theorem dX8_init_57 : decode cX8_init 57 = .ok (.return_, 1) := by decide +kernel
abbrev mX8_clear : ks_M := (RX8, cX8_clear, 1, none, "clear")
theorem dX8_clear_0 : decode cX8_clear 0 = .ok (.aload_n 0, 1) := by decide +kernel
theorem dX8_clear_1 : decode cX8_clear 1 = .ok (.iconst 0, 1) := by decide +kernel
theorem dX8_clear_2 : decode cX8_clear 2 = .ok (.putfield 31, 3) := by decide +kernel
theorem dX8_clear_5 : decode cX8_clear 5 = .ok (.aload_n 0, 1) := by decide +kernel
theorem dX8_clear_6 : decode cX8_clear 6 = .ok (.iconst 0, 1) := by decide +kernel
theorem dX8_clear_7 : decode cX8_clear 7 = .ok (.putfield 35, 3) := by decide +kernel
theorem dX8_clear_10 : decode cX8_clear 10 = .ok (.aload_n 0, 1) := by decide +kernel
theorem dX8_clear_11 : decode cX8_clear 11 = .ok (.iconst 0, 1) := by decide +kernel
theorem dX8_clear_12 : decode cX8_clear 12 = .ok (.putfield 38, 3) := by decide +kernel
theorem dX8_clear_15 : decode cX8_clear 15 = .ok (.return_, 1) := by decide +kernel
abbrev mX8_clearOther : ks_M := (RX8, cX8_clearOther, 1, none, "clearOther")
theorem dX8_clearOther_0 : decode cX8_clearOther 0 = .ok (.aload_n 0, 1) := by decide +kernel
theorem dX8_clearOther_1 : decode cX8_clearOther 1 = .ok (.iconst 0, 1) := by decide +kernel
theorem dX8_clearOther_2 : decode cX8_clearOther 2 = .ok (.putfield 35, 3) := by decide +kernel
theorem dX8_clearOther_5 : decode cX8_clearOther 5 = .ok (.return_, 1) := by decide +kernel
abbrev mX8_isTooHigh : ks_M := (RX8, cX8_isTooHigh, 1, (some .boolean), "isTooHigh")
theorem dX8_isTooHigh_0 : decode cX8_isTooHigh 0 = .ok (.aload_n 0, 1) := by decide +kernel
theorem dX8_isTooHigh_1 : decode cX8_isTooHigh 1 = .ok (.getfield 31, 3) := by decide +kernel
theorem dX8_isTooHigh_4 : decode cX8_isTooHigh 4 = .ok (.aload_n 0, 1) := by decide +kernel
theorem dX8_isTooHigh_5 : decode cX8_isTooHigh 5 = .ok (.getfield 35, 3) := by decide +kernel
theorem dX8_isTooHigh_8 : decode cX8_isTooHigh 8 = .ok (.iadd, 1) := by decide +kernel
theorem dX8_isTooHigh_9 : decode cX8_isTooHigh 9 = .ok (.sipush 1000, 3) := by decide +kernel
theorem dX8_isTooHigh_12 : decode cX8_isTooHigh 12 = .ok (.if_icmp .le 7, 3) := by decide +kernel
theorem dX8_isTooHigh_15 : decode cX8_isTooHigh 15 = .ok (.iconst 1, 1) := by decide +kernel
theorem dX8_isTooHigh_16 : decode cX8_isTooHigh 16 = .ok (.goto 4, 3) := by decide +kernel
theorem dX8_isTooHigh_19 : decode cX8_isTooHigh 19 = .ok (.iconst 0, 1) := by decide +kernel
theorem dX8_isTooHigh_20 : decode cX8_isTooHigh 20 = .ok (.ireturn, 1) := by decide +kernel
abbrev mX8_add : ks_M := (RX8, cX8_add, 4, (some .boolean), "add")
theorem dX8_add_0 : decode cX8_add 0 = .ok (.aload_n 0, 1) := by decide +kernel
theorem dX8_add_1 : decode cX8_add 1 = .ok (.getfield 31, 3) := by decide +kernel
theorem dX8_add_4 : decode cX8_add 4 = .ok (.sipush 1004, 3) := by decide +kernel
theorem dX8_add_7 : decode cX8_add 7 = .ok (.if_icmp .ge 15, 3) := by decide +kernel
theorem dX8_add_10 : decode cX8_add 10 = .ok (.iload_n 3, 1) := by decide +kernel
theorem dX8_add_11 : decode cX8_add 11 = .ok (.sipush 24096, 3) := by decide +kernel
theorem dX8_add_14 : decode cX8_add 14 = .ok (.aload_n 0, 1) := by decide +kernel
theorem dX8_add_15 : decode cX8_add 15 = .ok (.getfield 38, 3) := by decide +kernel
theorem dX8_add_18 : decode cX8_add 18 = .ok (.isub, 1) := by decide +kernel
theorem dX8_add_19 : decode cX8_add 19 = .ok (.if_icmp .le 5, 3) := by decide +kernel
theorem dX8_add_22 : decode cX8_add 22 = .ok (.iconst 0, 1) := by decide +kernel
theorem dX8_add_23 : decode cX8_add 23 = .ok (.ireturn, 1) := by decide +kernel
theorem dX8_add_24 : decode cX8_add 24 = .ok (.aload_n 1, 1) := by decide +kernel
theorem dX8_add_25 : decode cX8_add 25 = .ok (.iload_n 2, 1) := by decide +kernel
theorem dX8_add_26 : decode cX8_add 26 = .ok (.aload_n 0, 1) := by decide +kernel
theorem dX8_add_27 : decode cX8_add 27 = .ok (.getfield 11, 3) := by decide +kernel
theorem dX8_add_30 : decode cX8_add 30 = .ok (.aload_n 0, 1) := by decide +kernel
theorem dX8_add_31 : decode cX8_add 31 = .ok (.getfield 38, 3) := by decide +kernel
theorem dX8_add_34 : decode cX8_add 34 = .ok (.iload_n 3, 1) := by decide +kernel
theorem dX8_add_35 : decode cX8_add 35 = .ok (.invokestatic 41, 3) := by decide +kernel
theorem dX8_add_38 : decode cX8_add 38 = .ok (.aload_n 0, 1) := by decide +kernel
theorem dX8_add_39 : decode cX8_add 39 = .ok (.getfield 15, 3) := by decide +kernel
theorem dX8_add_42 : decode cX8_add 42 = .ok (.aload_n 0, 1) := by decide +kernel
theorem dX8_add_43 : decode cX8_add 43 = .ok (.getfield 31, 3) := by decide +kernel
theorem dX8_add_46 : decode cX8_add 46 = .ok (.aload_n 0, 1) := by decide +kernel
theorem dX8_add_47 : decode cX8_add 47 = .ok (.getfield 38, 3) := by decide +kernel
theorem dX8_add_50 : decode cX8_add 50 = .ok (.iastore, 1) := by decide +kernel
theorem dX8_add_51 : decode cX8_add 51 = .ok (.aload_n 0, 1) := by decide +kernel
theorem dX8_add_52 : decode cX8_add 52 = .ok (.getfield 19, 3) := by decide +kernel
theorem dX8_add_55 : decode cX8_add 55 = .ok (.aload_n 0, 1) := by decide +kernel
theorem dX8_add_56 : decode cX8_add 56 = .ok (.getfield 31, 3) := by decide +kernel
theorem dX8_add_59 : decode cX8_add 59 = .ok (.iload_n 3, 1) := by decide +kernel
theorem dX8_add_60 : decode cX8_add 60 = .ok (.iastore, 1) := by decide +kernel
theorem dX8_add_61 : decode cX8_add 61 = .ok (.aload_n 0, 1) := by decide +kernel
theorem dX8_add_62 : decode cX8_add 62 = .ok (.dup, 1) := by decide +kernel
theorem dX8_add_63 : decode cX8_add 63 = .ok (.getfield 38, 3) := by decide +kernel
theorem dX8_add_66 : decode cX8_add 66 = .ok (.iload_n 3, 1) := by decide +kernel
theorem dX8_add_67 : decode cX8_add 67 = .ok (.iadd, 1) := by decide +kernel
theorem dX8_add_68 : decode cX8_add 68 = .ok (.putfield 38, 3) := by decide +kernel
theorem dX8_add_71 : decode cX8_add 71 = .ok (.aload_n 0, 1) := by decide +kernel
theorem dX8_add_72 : decode cX8_add 72 = .ok (.dup, 1) := by decide +kernel
theorem dX8_add_73 : decode cX8_add 73 = .ok (.getfield 31, 3) := by decide +kernel
theorem dX8_add_76 : decode cX8_add 76 = .ok (.iconst 1, 1) := by decide +kernel
theorem dX8_add_77 : decode cX8_add 77 = .ok (.iadd, 1) := by decide +kernel
theorem dX8_add_78 : decode cX8_add 78 = .ok (.putfield 31, 3) := by decide +kernel
theorem dX8_add_81 : decode cX8_add 81 = .ok (.iconst 1, 1) := by decide +kernel
theorem dX8_add_82 : decode cX8_add 82 = .ok (.ireturn, 1) := by decide +kernel
abbrev mX8_addNumber : ks_M := (RX8, cX8_addNumber, 6, (some .boolean), "addNumber")
theorem dX8_addNumber_0 : decode cX8_addNumber 0 = .ok (.lload_n 1, 1) := by decide +kernel
theorem dX8_addNumber_1 : decode cX8_addNumber 1 = .ok (.lconst 0, 1) := by decide +kernel
theorem dX8_addNumber_2 : decode cX8_addNumber 2 = .ok (.lcmp, 1) := by decide +kernel
theorem dX8_addNumber_3 : decode cX8_addNumber 3 = .ok (.ifCond .ge 8, 3) := by decide +kernel
theorem dX8_addNumber_6 : decode cX8_addNumber 6 = .ok (.lload_n 1, 1) := by decide +kernel
theorem dX8_addNumber_7 : decode cX8_addNumber 7 = .ok (.lneg, 1) := by decide +kernel
theorem dX8_addNumber_8 : decode cX8_addNumber 8 = .ok (.goto 4, 3) := by decide +kernel
theorem dX8_addNumber_11 : decode cX8_addNumber 11 = .ok (.lload_n 1, 1) := by decide +kernel
theorem dX8_addNumber_12 : decode cX8_addNumber 12 = .ok (.lstore_n 3, 1) := by decide +kernel
theorem dX8_addNumber_13 : decode cX8_addNumber 13 = .ok (.iconst 0, 1) := by decide +kernel
theorem dX8_addNumber_14 : decode cX8_addNumber 14 = .ok (.istore 5, 2) := by decide +kernel
theorem dX8_addNumber_16 : decode cX8_addNumber 16 = .ok (.lload_n 3, 1) := by decide +kernel
theorem dX8_addNumber_17 : decode cX8_addNumber 17 = .ok (.lconst 0, 1) := by decide +kernel
theorem dX8_addNumber_18 : decode cX8_addNumber 18 = .ok (.lcmp, 1) := by decide +kernel
theorem dX8_addNumber_19 : decode cX8_addNumber 19 = .ok (.ifCond .eq 31, 3) := by decide +kernel
theorem dX8_addNumber_22 : decode cX8_addNumber 22 = .ok (.iload 5, 2) := by decide +kernel
theorem dX8_addNumber_24 : decode cX8_addNumber 24 = .ok (.bipush 7, 2) := by decide +kernel
theorem dX8_addNumber_26 : decode cX8_addNumber 26 = .ok (.if_icmp .ge 24, 3) := by decide +kernel
theorem dX8_addNumber_29 : decode cX8_addNumber 29 = .ok (.aload_n 0, 1) := by decide +kernel
theorem dX8_addNumber_30 : decode cX8_addNumber 30 = .ok (.getfield 28, 3) := by decide +kernel
theorem dX8_addNumber_33 : decode cX8_addNumber 33 = .ok (.iload 5, 2) := by decide +kernel
theorem dX8_addNumber_35 : decode cX8_addNumber 35 = .ok (.lload_n 3, 1) := by decide +kernel
theorem dX8_addNumber_36 : decode cX8_addNumber 36 = .ok (.l2i, 1) := by decide +kernel
theorem dX8_addNumber_37 : decode cX8_addNumber 37 = .ok (.i2b, 1) := by decide +kernel
theorem dX8_addNumber_38 : decode cX8_addNumber 38 = .ok (.bastore, 1) := by decide +kernel
theorem dX8_addNumber_39 : decode cX8_addNumber 39 = .ok (.lload_n 3, 1) := by decide +kernel
theorem dX8_addNumber_40 : decode cX8_addNumber 40 = .ok (.bipush 8, 2) := by decide +kernel
theorem dX8_addNumber_42 : decode cX8_addNumber 42 = .ok (.lushr, 1) := by decide +kernel
theorem dX8_addNumber_43 : decode cX8_addNumber 43 = .ok (.lstore_n 3, 1) := by decide +kernel
theorem dX8_addNumber_44 : decode cX8_addNumber 44 = .ok (.iinc 5 1, 3) := by decide +kernel
theorem dX8_addNumber_47 : decode cX8_addNumber 47 = .ok (.goto (-31), 3) := by decide +kernel
theorem dX8_addNumber_50 : decode cX8_addNumber 50 = .ok (.iload 5, 2) := by decide +kernel
theorem dX8_addNumber_52 : decode cX8_addNumber 52 = .ok (.ifCond .le 26, 3) := by decide +kernel
theorem dX8_addNumber_55 : decode cX8_addNumber 55 = .ok (.aload_n 0, 1) := by decide +kernel
theorem dX8_addNumber_56 : decode cX8_addNumber 56 = .ok (.getfield 28, 3) := by decide +kernel
theorem dX8_addNumber_59 : decode cX8_addNumber 59 = .ok (.iload 5, 2) := by decide +kernel
theorem dX8_addNumber_61 : decode cX8_addNumber 61 = .ok (.iconst 1, 1) := by decide +kernel
theorem dX8_addNumber_62 : decode cX8_addNumber 62 = .ok (.isub, 1) := by decide +kernel
theorem dX8_addNumber_63 : decode cX8_addNumber 63 = .ok (.baload, 1) := by decide +kernel
theorem dX8_addNumber_64 : decode cX8_addNumber 64 = .ok (.ifCond .ge 14, 3) := by decide +kernel
theorem dX8_addNumber_67 : decode cX8_addNumber 67 = .ok (.aload_n 0, 1) := by decide +kernel
theorem dX8_addNumber_68 : decode cX8_addNumber 68 = .ok (.getfield 28, 3) := by decide +kernel
theorem dX8_addNumber_71 : decode cX8_addNumber 71 = .ok (.iload 5, 2) := by decide +kernel
theorem dX8_addNumber_73 : decode cX8_addNumber 73 = .ok (.iconst 0, 1) := by decide +kernel
theorem dX8_addNumber_74 : decode cX8_addNumber 74 = .ok (.bastore, 1) := by decide +kernel
theorem dX8_addNumber_75 : decode cX8_addNumber 75 = .ok (.iinc 5 1, 3) := by decide +kernel
theorem dX8_addNumber_78 : decode cX8_addNumber 78 = .ok (.lload_n 1, 1) := by decide +kernel
theorem dX8_addNumber_79 : decode cX8_addNumber 79 = .ok (.lconst 0, 1) := by decide +kernel
theorem dX8_addNumber_80 : decode cX8_addNumber 80 = .ok (.lcmp, 1) := by decide +kernel
theorem dX8_addNumber_81 : decode cX8_addNumber 81 = .ok (.ifCond .ge 18, 3) := by decide +kernel
theorem dX8_addNumber_84 : decode cX8_addNumber 84 = .ok (.aload_n 0, 1) := by decide +kernel
theorem dX8_addNumber_85 : decode cX8_addNumber 85 = .ok (.getfield 28, 3) := by decide +kernel
theorem dX8_addNumber_88 : decode cX8_addNumber 88 = .ok (.iload 5, 2) := by decide +kernel
theorem dX8_addNumber_90 : decode cX8_addNumber 90 = .ok (.iconst 1, 1) := by decide +kernel
theorem dX8_addNumber_91 : decode cX8_addNumber 91 = .ok (.isub, 1) := by decide +kernel
theorem dX8_addNumber_92 : decode cX8_addNumber 92 = .ok (.dup2, 1) := by decide +kernel
theorem dX8_addNumber_93 : decode cX8_addNumber 93 = .ok (.baload, 1) := by decide +kernel
theorem dX8_addNumber_94 : decode cX8_addNumber 94 = .ok (.bipush (-128), 2) := by decide +kernel
theorem dX8_addNumber_96 : decode cX8_addNumber 96 = .ok (.ior, 1) := by decide +kernel
theorem dX8_addNumber_97 : decode cX8_addNumber 97 = .ok (.i2b, 1) := by decide +kernel
theorem dX8_addNumber_98 : decode cX8_addNumber 98 = .ok (.bastore, 1) := by decide +kernel
theorem dX8_addNumber_99 : decode cX8_addNumber 99 = .ok (.aload_n 0, 1) := by decide +kernel
theorem dX8_addNumber_100 : decode cX8_addNumber 100 = .ok (.aload_n 0, 1) := by decide +kernel
theorem dX8_addNumber_101 : decode cX8_addNumber 101 = .ok (.getfield 28, 3) := by decide +kernel
theorem dX8_addNumber_104 : decode cX8_addNumber 104 = .ok (.iconst 0, 1) := by decide +kernel
theorem dX8_addNumber_105 : decode cX8_addNumber 105 = .ok (.iload 5, 2) := by decide +kernel
theorem dX8_addNumber_107 : decode cX8_addNumber 107 = .ok (.invokevirtual 47, 3) := by decide +kernel
theorem dX8_addNumber_110 : decode cX8_addNumber 110 = .ok (.ireturn, 1) := by decide +kernel
abbrev mX8_addFlag : ks_M := (RX8, cX8_addFlag, 2, (some .boolean), "addFlag")
theorem dX8_addFlag_0 : decode cX8_addFlag 0 = .ok (.aload_n 0, 1) := by decide +kernel
theorem dX8_addFlag_1 : decode cX8_addFlag 1 = .ok (.getfield 28, 3) := by decide +kernel
theorem dX8_addFlag_4 : decode cX8_addFlag 4 = .ok (.iconst 0, 1) := by decide +kernel
theorem dX8_addFlag_5 : decode cX8_addFlag 5 = .ok (.iconst 1, 1) := by decide +kernel
theorem dX8_addFlag_6 : decode cX8_addFlag 6 = .ok (.bastore, 1) := by decide +kernel
theorem dX8_addFlag_7 : decode cX8_addFlag 7 = .ok (.aload_n 0, 1) := by decide +kernel
theorem dX8_addFlag_8 : decode cX8_addFlag 8 = .ok (.aload_n 0, 1) := by decide +kernel
theorem dX8_addFlag_9 : decode cX8_addFlag 9 = .ok (.getfield 28, 3) := by decide +kernel
theorem dX8_addFlag_12 : decode cX8_addFlag 12 = .ok (.iconst 0, 1) := by decide +kernel
theorem dX8_addFlag_13 : decode cX8_addFlag 13 = .ok (.iload_n 1, 1) := by decide +kernel
theorem dX8_addFlag_14 : decode cX8_addFlag 14 = .ok (.ifCond .eq 7, 3) := by decide +kernel
theorem dX8_addFlag_17 : decode cX8_addFlag 17 = .ok (.iconst 1, 1) := by decide +kernel
theorem dX8_addFlag_18 : decode cX8_addFlag 18 = .ok (.goto 4, 3) := by decide +kernel
theorem dX8_addFlag_21 : decode cX8_addFlag 21 = .ok (.iconst 0, 1) := by decide +kernel
theorem dX8_addFlag_22 : decode cX8_addFlag 22 = .ok (.invokevirtual 47, 3) := by decide +kernel
theorem dX8_addFlag_25 : decode cX8_addFlag 25 = .ok (.ireturn, 1) := by decide +kernel
abbrev mX8_drop : ks_M := (RX8, cX8_drop, 2, (some .boolean), "drop")
theorem dX8_drop_0 : decode cX8_drop 0 = .ok (.aload_n 0, 1) := by decide +kernel
theorem dX8_drop_1 : decode cX8_drop 1 = .ok (.dup, 1) := by decide +kernel
theorem dX8_drop_2 : decode cX8_drop 2 = .ok (.getfield 31, 3) := by decide +kernel
theorem dX8_drop_5 : decode cX8_drop 5 = .ok (.iload_n 1, 1) := by decide +kernel
theorem dX8_drop_6 : decode cX8_drop 6 = .ok (.isub, 1) := by decide +kernel
theorem dX8_drop_7 : decode cX8_drop 7 = .ok (.putfield 31, 3) := by decide +kernel
theorem dX8_drop_10 : decode cX8_drop 10 = .ok (.iconst 1, 1) := by decide +kernel
theorem dX8_drop_11 : decode cX8_drop 11 = .ok (.ireturn, 1) := by decide +kernel
abbrev mX8_copy : ks_M := (RX8, cX8_copy, 2, (some .boolean), "copy")
theorem dX8_copy_0 : decode cX8_copy 0 = .ok (.iload_n 1, 1) := by decide +kernel
theorem dX8_copy_1 : decode cX8_copy 1 = .ok (.ifCond .lt 21, 3) := by decide +kernel
theorem dX8_copy_4 : decode cX8_copy 4 = .ok (.iload_n 1, 1) := by decide +kernel
theorem dX8_copy_5 : decode cX8_copy 5 = .ok (.aload_n 0, 1) := by decide +kernel
theorem dX8_copy_6 : decode cX8_copy 6 = .ok (.getfield 31, 3) := by decide +kernel
theorem dX8_copy_9 : decode cX8_copy 9 = .ok (.if_icmp .ge 13, 3) := by decide +kernel
theorem dX8_copy_12 : decode cX8_copy 12 = .ok (.aload_n 0, 1) := by decide +kernel
theorem dX8_copy_13 : decode cX8_copy 13 = .ok (.getfield 31, 3) := by decide +kernel
theorem dX8_copy_16 : decode cX8_copy 16 = .ok (.sipush 1004, 3) := by decide +kernel
theorem dX8_copy_19 : decode cX8_copy 19 = .ok (.if_icmp .lt 5, 3) := by decide +kernel
theorem dX8_copy_22 : decode cX8_copy 22 = .ok (.iconst 0, 1) := by decide +kernel
theorem dX8_copy_23 : decode cX8_copy 23 = .ok (.ireturn, 1) := by decide +kernel
theorem dX8_copy_24 : decode cX8_copy 24 = .ok (.aload_n 0, 1) := by decide +kernel
theorem dX8_copy_25 : decode cX8_copy 25 = .ok (.getfield 15, 3) := by decide +kernel
theorem dX8_copy_28 : decode cX8_copy 28 = .ok (.aload_n 0, 1) := by decide +kernel
theorem dX8_copy_29 : decode cX8_copy 29 = .ok (.getfield 31, 3) := by decide +kernel
theorem dX8_copy_32 : decode cX8_copy 32 = .ok (.aload_n 0, 1) := by decide +kernel
theorem dX8_copy_33 : decode cX8_copy 33 = .ok (.getfield 15, 3) := by decide +kernel
theorem dX8_copy_36 : decode cX8_copy 36 = .ok (.aload_n 0, 1) := by decide +kernel
theorem dX8_copy_37 : decode cX8_copy 37 = .ok (.getfield 31, 3) := by decide +kernel
theorem dX8_copy_40 : decode cX8_copy 40 = .ok (.iconst 1, 1) := by decide +kernel
theorem dX8_copy_41 : decode cX8_copy 41 = .ok (.isub, 1) := by decide +kernel
theorem dX8_copy_42 : decode cX8_copy 42 = .ok (.iload_n 1, 1) := by decide +kernel
theorem dX8_copy_43 : decode cX8_copy 43 = .ok (.isub, 1) := by decide +kernel
theorem dX8_copy_44 : decode cX8_copy 44 = .ok (.iaload, 1) := by decide +kernel
theorem dX8_copy_45 : decode cX8_copy 45 = .ok (.iastore, 1) := by decide +kernel
theorem dX8_copy_46 : decode cX8_copy 46 = .ok (.aload_n 0, 1) := by decide +kernel
theorem dX8_copy_47 : decode cX8_copy 47 = .ok (.getfield 19, 3) := by decide +kernel
theorem dX8_copy_50 : decode cX8_copy 50 = .ok (.aload_n 0, 1) := by decide +kernel
theorem dX8_copy_51 : decode cX8_copy 51 = .ok (.getfield 31, 3) := by decide +kernel
theorem dX8_copy_54 : decode cX8_copy 54 = .ok (.aload_n 0, 1) := by decide +kernel
theorem dX8_copy_55 : decode cX8_copy 55 = .ok (.getfield 19, 3) := by decide +kernel
theorem dX8_copy_58 : decode cX8_copy 58 = .ok (.aload_n 0, 1) := by decide +kernel
theorem dX8_copy_59 : decode cX8_copy 59 = .ok (.getfield 31, 3) := by decide +kernel
theorem dX8_copy_62 : decode cX8_copy 62 = .ok (.iconst 1, 1) := by decide +kernel
theorem dX8_copy_63 : decode cX8_copy 63 = .ok (.isub, 1) := by decide +kernel
theorem dX8_copy_64 : decode cX8_copy 64 = .ok (.iload_n 1, 1) := by decide +kernel
theorem dX8_copy_65 : decode cX8_copy 65 = .ok (.isub, 1) := by decide +kernel
theorem dX8_copy_66 : decode cX8_copy 66 = .ok (.iaload, 1) := by decide +kernel
theorem dX8_copy_67 : decode cX8_copy 67 = .ok (.iastore, 1) := by decide +kernel
theorem dX8_copy_68 : decode cX8_copy 68 = .ok (.aload_n 0, 1) := by decide +kernel
theorem dX8_copy_69 : decode cX8_copy 69 = .ok (.dup, 1) := by decide +kernel
theorem dX8_copy_70 : decode cX8_copy 70 = .ok (.getfield 31, 3) := by decide +kernel
theorem dX8_copy_73 : decode cX8_copy 73 = .ok (.iconst 1, 1) := by decide +kernel
theorem dX8_copy_74 : decode cX8_copy 74 = .ok (.iadd, 1) := by decide +kernel
theorem dX8_copy_75 : decode cX8_copy 75 = .ok (.putfield 31, 3) := by decide +kernel
theorem dX8_copy_78 : decode cX8_copy 78 = .ok (.iconst 1, 1) := by decide +kernel
theorem dX8_copy_79 : decode cX8_copy 79 = .ok (.ireturn, 1) := by decide +kernel
abbrev mX8_lift : ks_M := (RX8, cX8_lift, 5, (some .boolean), "lift")
theorem dX8_lift_0 : decode cX8_lift 0 = .ok (.iload_n 1, 1) := by decide +kernel
theorem dX8_lift_1 : decode cX8_lift 1 = .ok (.ifCond .lt 11, 3) := by decide +kernel
theorem dX8_lift_4 : decode cX8_lift 4 = .ok (.iload_n 1, 1) := by decide +kernel
theorem dX8_lift_5 : decode cX8_lift 5 = .ok (.aload_n 0, 1) := by decide +kernel
theorem dX8_lift_6 : decode cX8_lift 6 = .ok (.getfield 31, 3) := by decide +kernel
theorem dX8_lift_9 : decode cX8_lift 9 = .ok (.if_icmp .lt 5, 3) := by decide +kernel
theorem dX8_lift_12 : decode cX8_lift 12 = .ok (.iconst 0, 1) := by decide +kernel
theorem dX8_lift_13 : decode cX8_lift 13 = .ok (.ireturn, 1) := by decide +kernel
theorem dX8_lift_14 : decode cX8_lift 14 = .ok (.aload_n 0, 1) := by decide +kernel
theorem dX8_lift_15 : decode cX8_lift 15 = .ok (.getfield 31, 3) := by decide +kernel
theorem dX8_lift_18 : decode cX8_lift 18 = .ok (.iconst 1, 1) := by decide +kernel
theorem dX8_lift_19 : decode cX8_lift 19 = .ok (.isub, 1) := by decide +kernel
theorem dX8_lift_20 : decode cX8_lift 20 = .ok (.iload_n 1, 1) := by decide +kernel
theorem dX8_lift_21 : decode cX8_lift 21 = .ok (.isub, 1) := by decide +kernel
theorem dX8_lift_22 : decode cX8_lift 22 = .ok (.istore_n 2, 1) := by decide +kernel
theorem dX8_lift_23 : decode cX8_lift 23 = .ok (.aload_n 0, 1) := by decide +kernel
theorem dX8_lift_24 : decode cX8_lift 24 = .ok (.getfield 15, 3) := by decide +kernel
theorem dX8_lift_27 : decode cX8_lift 27 = .ok (.iload_n 2, 1) := by decide +kernel
theorem dX8_lift_28 : decode cX8_lift 28 = .ok (.iaload, 1) := by decide +kernel
theorem dX8_lift_29 : decode cX8_lift 29 = .ok (.istore_n 3, 1) := by decide +kernel
theorem dX8_lift_30 : decode cX8_lift 30 = .ok (.aload_n 0, 1) := by decide +kernel
theorem dX8_lift_31 : decode cX8_lift 31 = .ok (.getfield 19, 3) := by decide +kernel
theorem dX8_lift_34 : decode cX8_lift 34 = .ok (.iload_n 2, 1) := by decide +kernel
theorem dX8_lift_35 : decode cX8_lift 35 = .ok (.iaload, 1) := by decide +kernel
theorem dX8_lift_36 : decode cX8_lift 36 = .ok (.istore 4, 2) := by decide +kernel
theorem dX8_lift_38 : decode cX8_lift 38 = .ok (.aload_n 0, 1) := by decide +kernel
theorem dX8_lift_39 : decode cX8_lift 39 = .ok (.getfield 15, 3) := by decide +kernel
theorem dX8_lift_42 : decode cX8_lift 42 = .ok (.iload_n 2, 1) := by decide +kernel
theorem dX8_lift_43 : decode cX8_lift 43 = .ok (.iconst 1, 1) := by decide +kernel
theorem dX8_lift_44 : decode cX8_lift 44 = .ok (.iadd, 1) := by decide +kernel
theorem dX8_lift_45 : decode cX8_lift 45 = .ok (.aload_n 0, 1) := by decide +kernel
theorem dX8_lift_46 : decode cX8_lift 46 = .ok (.getfield 15, 3) := by decide +kernel
theorem dX8_lift_49 : decode cX8_lift 49 = .ok (.iload_n 2, 1) := by decide +kernel
theorem dX8_lift_50 : decode cX8_lift 50 = .ok (.iload_n 1, 1) := by decide +kernel
theorem dX8_lift_51 : decode cX8_lift 51 = .ok (.invokestatic 41, 3) := by decide +kernel
theorem dX8_lift_54 : decode cX8_lift 54 = .ok (.aload_n 0, 1) := by decide +kernel
theorem dX8_lift_55 : decode cX8_lift 55 = .ok (.getfield 19, 3) := by decide +kernel
theorem dX8_lift_58 : decode cX8_lift 58 = .ok (.iload_n 2, 1) := by decide +kernel
theorem dX8_lift_59 : decode cX8_lift 59 = .ok (.iconst 1, 1) := by decide +kernel
theorem dX8_lift_60 : decode cX8_lift 60 = .ok (.iadd, 1) := by decide +kernel
theorem dX8_lift_61 : decode cX8_lift 61 = .ok (.aload_n 0, 1) := by decide +kernel
theorem dX8_lift_62 : decode cX8_lift 62 = .ok (.getfield 19, 3) := by decide +kernel
theorem dX8_lift_65 : decode cX8_lift 65 = .ok (.iload_n 2, 1) := by decide +kernel
theorem dX8_lift_66 : decode cX8_lift 66 = .ok (.iload_n 1, 1) := by decide +kernel
theorem dX8_lift_67 : decode cX8_lift 67 = .ok (.invokestatic 41, 3) := by decide +kernel
theorem dX8_lift_70 : decode cX8_lift 70 = .ok (.aload_n 0, 1) := by decide +kernel
theorem dX8_lift_71 : decode cX8_lift 71 = .ok (.getfield 15, 3) := by decide +kernel
theorem dX8_lift_74 : decode cX8_lift 74 = .ok (.aload_n 0, 1) := by decide +kernel
theorem dX8_lift_75 : decode cX8_lift 75 = .ok (.getfield 31, 3) := by decide +kernel
theorem dX8_lift_78 : decode cX8_lift 78 = .ok (.iconst 1, 1) := by decide +kernel
theorem dX8_lift_79 : decode cX8_lift 79 = .ok (.isub, 1) := by decide +kernel
theorem dX8_lift_80 : decode cX8_lift 80 = .ok (.iload_n 3, 1) := by decide +kernel
theorem dX8_lift_81 : decode cX8_lift 81 = .ok (.iastore, 1) := by decide +kernel
theorem dX8_lift_82 : decode cX8_lift 82 = .ok (.aload_n 0, 1) := by decide +kernel
theorem dX8_lift_83 : decode cX8_lift 83 = .ok (.getfield 19, 3) := by decide +kernel
theorem dX8_lift_86 : decode cX8_lift 86 = .ok (.aload_n 0, 1) := by decide +kernel
theorem dX8_lift_87 : decode cX8_lift 87 = .ok (.getfield 31, 3) := by decide +kernel
theorem dX8_lift_90 : decode cX8_lift 90 = .ok (.iconst 1, 1) := by decide +kernel
theorem dX8_lift_91 : decode cX8_lift 91 = .ok (.isub, 1) := by decide +kernel
theorem dX8_lift_92 : decode cX8_lift 92 = .ok (.iload 4, 2) := by decide +kernel
theorem dX8_lift_94 : decode cX8_lift 94 = .ok (.iastore, 1) := by decide +kernel
theorem dX8_lift_95 : decode cX8_lift 95 = .ok (.iconst 1, 1) := by decide +kernel
theorem dX8_lift_96 : decode cX8_lift 96 = .ok (.ireturn, 1) := by decide +kernel
abbrev mX8_putAside : ks_M := (RX8, cX8_putAside, 1, (some .boolean), "putAside")
theorem dX8_putAside_0 : decode cX8_putAside 0 = .ok (.aload_n 0, 1) := by decide +kernel
theorem dX8_putAside_1 : decode cX8_putAside 1 = .ok (.getfield 31, 3) := by decide +kernel
theorem dX8_putAside_4 : decode cX8_putAside 4 = .ok (.ifCond .eq 13, 3) := by decide +kernel
theorem dX8_putAside_7 : decode cX8_putAside 7 = .ok (.aload_n 0, 1) := by decide +kernel
theorem dX8_putAside_8 : decode cX8_putAside 8 = .ok (.getfield 35, 3) := by decide +kernel
theorem dX8_putAside_11 : decode cX8_putAside 11 = .ok (.sipush 1004, 3) := by decide +kernel
theorem dX8_putAside_14 : decode cX8_putAside 14 = .ok (.if_icmp .lt 5, 3) := by decide +kernel
theorem dX8_putAside_17 : decode cX8_putAside 17 = .ok (.iconst 0, 1) := by decide +kernel
theorem dX8_putAside_18 : decode cX8_putAside 18 = .ok (.ireturn, 1) := by decide +kernel
theorem dX8_putAside_19 : decode cX8_putAside 19 = .ok (.aload_n 0, 1) := by decide +kernel
theorem dX8_putAside_20 : decode cX8_putAside 20 = .ok (.dup, 1) := by decide +kernel
theorem dX8_putAside_21 : decode cX8_putAside 21 = .ok (.getfield 31, 3) := by decide +kernel
theorem dX8_putAside_24 : decode cX8_putAside 24 = .ok (.iconst 1, 1) := by decide +kernel
theorem dX8_putAside_25 : decode cX8_putAside 25 = .ok (.isub, 1) := by decide +kernel
theorem dX8_putAside_26 : decode cX8_putAside 26 = .ok (.putfield 31, 3) := by decide +kernel
theorem dX8_putAside_29 : decode cX8_putAside 29 = .ok (.aload_n 0, 1) := by decide +kernel
theorem dX8_putAside_30 : decode cX8_putAside 30 = .ok (.getfield 22, 3) := by decide +kernel
theorem dX8_putAside_33 : decode cX8_putAside 33 = .ok (.aload_n 0, 1) := by decide +kernel
theorem dX8_putAside_34 : decode cX8_putAside 34 = .ok (.getfield 35, 3) := by decide +kernel
theorem dX8_putAside_37 : decode cX8_putAside 37 = .ok (.aload_n 0, 1) := by decide +kernel
theorem dX8_putAside_38 : decode cX8_putAside 38 = .ok (.getfield 15, 3) := by decide +kernel
theorem dX8_putAside_41 : decode cX8_putAside 41 = .ok (.aload_n 0, 1) := by decide +kernel
theorem dX8_putAside_42 : decode cX8_putAside 42 = .ok (.getfield 31, 3) := by decide +kernel
theorem dX8_putAside_45 : decode cX8_putAside 45 = .ok (.iaload, 1) := by decide +kernel
theorem dX8_putAside_46 : decode cX8_putAside 46 = .ok (.iastore, 1) := by decide +kernel
theorem dX8_putAside_47 : decode cX8_putAside 47 = .ok (.aload_n 0, 1) := by decide +kernel
theorem dX8_putAside_48 : decode cX8_putAside 48 = .ok (.getfield 25, 3) := by decide +kernel
theorem dX8_putAside_51 : decode cX8_putAside 51 = .ok (.aload_n 0, 1) := by decide +kernel
theorem dX8_putAside_52 : decode cX8_putAside 52 = .ok (.getfield 35, 3) := by decide +kernel
theorem dX8_putAside_55 : decode cX8_putAside 55 = .ok (.aload_n 0, 1) := by decide +kernel
theorem dX8_putAside_56 : decode cX8_putAside 56 = .ok (.getfield 19, 3) := by decide +kernel
theorem dX8_putAside_59 : decode cX8_putAside 59 = .ok (.aload_n 0, 1) := by decide +kernel
theorem dX8_putAside_60 : decode cX8_putAside 60 = .ok (.getfield 31, 3) := by decide +kernel
theorem dX8_putAside_63 : decode cX8_putAside 63 = .ok (.iaload, 1) := by decide +kernel
theorem dX8_putAside_64 : decode cX8_putAside 64 = .ok (.iastore, 1) := by decide +kernel
theorem dX8_putAside_65 : decode cX8_putAside 65 = .ok (.aload_n 0, 1) := by decide +kernel
theorem dX8_putAside_66 : decode cX8_putAside 66 = .ok (.dup, 1) := by decide +kernel
theorem dX8_putAside_67 : decode cX8_putAside 67 = .ok (.getfield 35, 3) := by decide +kernel
theorem dX8_putAside_70 : decode cX8_putAside 70 = .ok (.iconst 1, 1) := by decide +kernel
theorem dX8_putAside_71 : decode cX8_putAside 71 = .ok (.iadd, 1) := by decide +kernel
theorem dX8_putAside_72 : decode cX8_putAside 72 = .ok (.putfield 35, 3) := by decide +kernel
theorem dX8_putAside_75 : decode cX8_putAside 75 = .ok (.iconst 1, 1) := by decide +kernel
theorem dX8_putAside_76 : decode cX8_putAside 76 = .ok (.ireturn, 1) := by decide +kernel
abbrev mX8_takeBack : ks_M := (RX8, cX8_takeBack, 1, (some .boolean), "takeBack")
theorem dX8_takeBack_0 : decode cX8_takeBack 0 = .ok (.aload_n 0, 1) := by decide +kernel
theorem dX8_takeBack_1 : decode cX8_takeBack 1 = .ok (.getfield 35, 3) := by decide +kernel
theorem dX8_takeBack_4 : decode cX8_takeBack 4 = .ok (.ifCond .eq 13, 3) := by decide +kernel
theorem dX8_takeBack_7 : decode cX8_takeBack 7 = .ok (.aload_n 0, 1) := by decide +kernel
theorem dX8_takeBack_8 : decode cX8_takeBack 8 = .ok (.getfield 31, 3) := by decide +kernel
theorem dX8_takeBack_11 : decode cX8_takeBack 11 = .ok (.sipush 1004, 3) := by decide +kernel
theorem dX8_takeBack_14 : decode cX8_takeBack 14 = .ok (.if_icmp .lt 5, 3) := by decide +kernel
theorem dX8_takeBack_17 : decode cX8_takeBack 17 = .ok (.iconst 0, 1) := by decide +kernel
theorem dX8_takeBack_18 : decode cX8_takeBack 18 = .ok (.ireturn, 1) := by decide +kernel
theorem dX8_takeBack_19 : decode cX8_takeBack 19 = .ok (.aload_n 0, 1) := by decide +kernel
theorem dX8_takeBack_20 : decode cX8_takeBack 20 = .ok (.dup, 1) := by decide +kernel
theorem dX8_takeBack_21 : decode cX8_takeBack 21 = .ok (.getfield 35, 3) := by decide +kernel
theorem dX8_takeBack_24 : decode cX8_takeBack 24 = .ok (.iconst 1, 1) := by decide +kernel
theorem dX8_takeBack_25 : decode cX8_takeBack 25 = .ok (.isub, 1) := by decide +kernel
theorem dX8_takeBack_26 : decode cX8_takeBack 26 = .ok (.putfield 35, 3) := by decide +kernel
theorem dX8_takeBack_29 : decode cX8_takeBack 29 = .ok (.aload_n 0, 1) := by decide +kernel
theorem dX8_takeBack_30 : decode cX8_takeBack 30 = .ok (.getfield 15, 3) := by decide +kernel
theorem dX8_takeBack_33 : decode cX8_takeBack 33 = .ok (.aload_n 0, 1) := by decide +kernel
theorem dX8_takeBack_34 : decode cX8_takeBack 34 = .ok (.getfield 31, 3) := by decide +kernel
theorem dX8_takeBack_37 : decode cX8_takeBack 37 = .ok (.aload_n 0, 1) := by decide +kernel
theorem dX8_takeBack_38 : decode cX8_takeBack 38 = .ok (.getfield 22, 3) := by decide +kernel
theorem dX8_takeBack_41 : decode cX8_takeBack 41 = .ok (.aload_n 0, 1) := by decide +kernel
theorem dX8_takeBack_42 : decode cX8_takeBack 42 = .ok (.getfield 35, 3) := by decide +kernel
theorem dX8_takeBack_45 : decode cX8_takeBack 45 = .ok (.iaload, 1) := by decide +kernel
theorem dX8_takeBack_46 : decode cX8_takeBack 46 = .ok (.iastore, 1) := by decide +kernel
theorem dX8_takeBack_47 : decode cX8_takeBack 47 = .ok (.aload_n 0, 1) := by decide +kernel
theorem dX8_takeBack_48 : decode cX8_takeBack 48 = .ok (.getfield 19, 3) := by decide +kernel
theorem dX8_takeBack_51 : decode cX8_takeBack 51 = .ok (.aload_n 0, 1) := by decide +kernel
theorem dX8_takeBack_52 : decode cX8_takeBack 52 = .ok (.getfield 31, 3) := by decide +kernel
theorem dX8_takeBack_55 : decode cX8_takeBack 55 = .ok (.aload_n 0, 1) := by decide +kernel
theorem dX8_takeBack_56 : decode cX8_takeBack 56 = .ok (.getfield 25, 3) := by decide +kernel
theorem dX8_takeBack_59 : decode cX8_takeBack 59 = .ok (.aload_n 0, 1) := by decide +kernel
theorem dX8_takeBack_60 : decode cX8_takeBack 60 = .ok (.getfield 35, 3) := by decide +kernel
theorem dX8_takeBack_63 : decode cX8_takeBack 63 = .ok (.iaload, 1) := by decide +kernel
theorem dX8_takeBack_64 : decode cX8_takeBack 64 = .ok (.iastore, 1) := by decide +kernel
theorem dX8_takeBack_65 : decode cX8_takeBack 65 = .ok (.aload_n 0, 1) := by decide +kernel
theorem dX8_takeBack_66 : decode cX8_takeBack 66 = .ok (.dup, 1) := by decide +kernel
theorem dX8_takeBack_67 : decode cX8_takeBack 67 = .ok (.getfield 31, 3) := by decide +kernel
theorem dX8_takeBack_70 : decode cX8_takeBack 70 = .ok (.iconst 1, 1) := by decide +kernel
theorem dX8_takeBack_71 : decode cX8_takeBack 71 = .ok (.iadd, 1) := by decide +kernel
theorem dX8_takeBack_72 : decode cX8_takeBack 72 = .ok (.putfield 31, 3) := by decide +kernel
theorem dX8_takeBack_75 : decode cX8_takeBack 75 = .ok (.iconst 1, 1) := by decide +kernel
theorem dX8_takeBack_76 : decode cX8_takeBack 76 = .ok (.ireturn, 1) := by decide +kernel
abbrev mX8_isTopTrue : ks_M := (RX8, cX8_isTopTrue, 4, (some .boolean), "isTopTrue")
theorem dX8_isTopTrue_0 : decode cX8_isTopTrue 0 = .ok (.aload_n 0, 1) := by decide +kernel
theorem dX8_isTopTrue_1 : decode cX8_isTopTrue 1 = .ok (.getfield 31, 3) := by decide +kernel
theorem dX8_isTopTrue_4 : decode cX8_isTopTrue 4 = .ok (.ifCond .ne 5, 3) := by decide +kernel
theorem dX8_isTopTrue_7 : decode cX8_isTopTrue 7 = .ok (.iconst 0, 1) := by decide +kernel
theorem dX8_isTopTrue_8 : decode cX8_isTopTrue 8 = .ok (.ireturn, 1) := by decide +kernel
theorem dX8_isTopTrue_9 : decode cX8_isTopTrue 9 = .ok (.aload_n 0, 1) := by decide +kernel
theorem dX8_isTopTrue_10 : decode cX8_isTopTrue 10 = .ok (.getfield 19, 3) := by decide +kernel
theorem dX8_isTopTrue_13 : decode cX8_isTopTrue 13 = .ok (.aload_n 0, 1) := by decide +kernel
theorem dX8_isTopTrue_14 : decode cX8_isTopTrue 14 = .ok (.getfield 31, 3) := by decide +kernel
theorem dX8_isTopTrue_17 : decode cX8_isTopTrue 17 = .ok (.iconst 1, 1) := by decide +kernel
theorem dX8_isTopTrue_18 : decode cX8_isTopTrue 18 = .ok (.isub, 1) := by decide +kernel
theorem dX8_isTopTrue_19 : decode cX8_isTopTrue 19 = .ok (.iaload, 1) := by decide +kernel
theorem dX8_isTopTrue_20 : decode cX8_isTopTrue 20 = .ok (.iconst 1, 1) := by decide +kernel
theorem dX8_isTopTrue_21 : decode cX8_isTopTrue 21 = .ok (.isub, 1) := by decide +kernel
theorem dX8_isTopTrue_22 : decode cX8_isTopTrue 22 = .ok (.istore_n 1, 1) := by decide +kernel
theorem dX8_isTopTrue_23 : decode cX8_isTopTrue 23 = .ok (.aload_n 0, 1) := by decide +kernel
theorem dX8_isTopTrue_24 : decode cX8_isTopTrue 24 = .ok (.getfield 15, 3) := by decide +kernel
theorem dX8_isTopTrue_27 : decode cX8_isTopTrue 27 = .ok (.aload_n 0, 1) := by decide +kernel
theorem dX8_isTopTrue_28 : decode cX8_isTopTrue 28 = .ok (.getfield 31, 3) := by decide +kernel
theorem dX8_isTopTrue_31 : decode cX8_isTopTrue 31 = .ok (.iconst 1, 1) := by decide +kernel
theorem dX8_isTopTrue_32 : decode cX8_isTopTrue 32 = .ok (.isub, 1) := by decide +kernel
theorem dX8_isTopTrue_33 : decode cX8_isTopTrue 33 = .ok (.iaload, 1) := by decide +kernel
theorem dX8_isTopTrue_34 : decode cX8_isTopTrue 34 = .ok (.istore_n 2, 1) := by decide +kernel
theorem dX8_isTopTrue_35 : decode cX8_isTopTrue 35 = .ok (.iconst 0, 1) := by decide +kernel
theorem dX8_isTopTrue_36 : decode cX8_isTopTrue 36 = .ok (.istore_n 3, 1) := by decide +kernel
theorem dX8_isTopTrue_37 : decode cX8_isTopTrue 37 = .ok (.iload_n 3, 1) := by decide +kernel
theorem dX8_isTopTrue_38 : decode cX8_isTopTrue 38 = .ok (.iload_n 1, 1) := by decide +kernel
theorem dX8_isTopTrue_39 : decode cX8_isTopTrue 39 = .ok (.if_icmp .gt 44, 3) := by decide +kernel
theorem dX8_isTopTrue_42 : decode cX8_isTopTrue 42 = .ok (.aload_n 0, 1) := by decide +kernel
theorem dX8_isTopTrue_43 : decode cX8_isTopTrue 43 = .ok (.getfield 11, 3) := by decide +kernel
theorem dX8_isTopTrue_46 : decode cX8_isTopTrue 46 = .ok (.iload_n 2, 1) := by decide +kernel
theorem dX8_isTopTrue_47 : decode cX8_isTopTrue 47 = .ok (.iload_n 3, 1) := by decide +kernel
theorem dX8_isTopTrue_48 : decode cX8_isTopTrue 48 = .ok (.iadd, 1) := by decide +kernel
theorem dX8_isTopTrue_49 : decode cX8_isTopTrue 49 = .ok (.baload, 1) := by decide +kernel
theorem dX8_isTopTrue_50 : decode cX8_isTopTrue 50 = .ok (.ifCond .eq 27, 3) := by decide +kernel
theorem dX8_isTopTrue_53 : decode cX8_isTopTrue 53 = .ok (.iload_n 3, 1) := by decide +kernel
theorem dX8_isTopTrue_54 : decode cX8_isTopTrue 54 = .ok (.iload_n 1, 1) := by decide +kernel
theorem dX8_isTopTrue_55 : decode cX8_isTopTrue 55 = .ok (.if_icmp .ne 16, 3) := by decide +kernel
theorem dX8_isTopTrue_58 : decode cX8_isTopTrue 58 = .ok (.aload_n 0, 1) := by decide +kernel
theorem dX8_isTopTrue_59 : decode cX8_isTopTrue 59 = .ok (.getfield 11, 3) := by decide +kernel
theorem dX8_isTopTrue_62 : decode cX8_isTopTrue 62 = .ok (.iload_n 2, 1) := by decide +kernel
theorem dX8_isTopTrue_63 : decode cX8_isTopTrue 63 = .ok (.iload_n 3, 1) := by decide +kernel
theorem dX8_isTopTrue_64 : decode cX8_isTopTrue 64 = .ok (.iadd, 1) := by decide +kernel
theorem dX8_isTopTrue_65 : decode cX8_isTopTrue 65 = .ok (.baload, 1) := by decide +kernel
theorem dX8_isTopTrue_66 : decode cX8_isTopTrue 66 = .ok (.bipush (-128), 2) := by decide +kernel
theorem dX8_isTopTrue_68 : decode cX8_isTopTrue 68 = .ok (.if_icmp .eq 7, 3) := by decide +kernel
theorem dX8_isTopTrue_71 : decode cX8_isTopTrue 71 = .ok (.iconst 1, 1) := by decide +kernel
theorem dX8_isTopTrue_72 : decode cX8_isTopTrue 72 = .ok (.goto 4, 3) := by decide +kernel
theorem dX8_isTopTrue_75 : decode cX8_isTopTrue 75 = .ok (.iconst 0, 1) := by decide +kernel
theorem dX8_isTopTrue_76 : decode cX8_isTopTrue 76 = .ok (.ireturn, 1) := by decide +kernel
theorem dX8_isTopTrue_77 : decode cX8_isTopTrue 77 = .ok (.iinc 3 1, 3) := by decide +kernel
theorem dX8_isTopTrue_80 : decode cX8_isTopTrue 80 = .ok (.goto (-43), 3) := by decide +kernel
theorem dX8_isTopTrue_83 : decode cX8_isTopTrue 83 = .ok (.iconst 0, 1) := by decide +kernel
theorem dX8_isTopTrue_84 : decode cX8_isTopTrue 84 = .ok (.ireturn, 1) := by decide +kernel
abbrev mX8_areTopTwoSame : ks_M := (RX8, cX8_areTopTwoSame, 3, (some .boolean), "areTopTwoSame")
theorem dX8_areTopTwoSame_0 : decode cX8_areTopTwoSame 0 = .ok (.aload_n 0, 1) := by decide +kernel
theorem dX8_areTopTwoSame_1 : decode cX8_areTopTwoSame 1 = .ok (.getfield 19, 3) := by decide +kernel
theorem dX8_areTopTwoSame_4 : decode cX8_areTopTwoSame 4 = .ok (.aload_n 0, 1) := by decide +kernel
theorem dX8_areTopTwoSame_5 : decode cX8_areTopTwoSame 5 = .ok (.getfield 31, 3) := by decide +kernel
theorem dX8_areTopTwoSame_8 : decode cX8_areTopTwoSame 8 = .ok (.iconst 1, 1) := by decide +kernel
theorem dX8_areTopTwoSame_9 : decode cX8_areTopTwoSame 9 = .ok (.isub, 1) := by decide +kernel
theorem dX8_areTopTwoSame_10 : decode cX8_areTopTwoSame 10 = .ok (.iaload, 1) := by decide +kernel
theorem dX8_areTopTwoSame_11 : decode cX8_areTopTwoSame 11 = .ok (.istore_n 1, 1) := by decide +kernel
theorem dX8_areTopTwoSame_12 : decode cX8_areTopTwoSame 12 = .ok (.aload_n 0, 1) := by decide +kernel
theorem dX8_areTopTwoSame_13 : decode cX8_areTopTwoSame 13 = .ok (.getfield 19, 3) := by decide +kernel
theorem dX8_areTopTwoSame_16 : decode cX8_areTopTwoSame 16 = .ok (.aload_n 0, 1) := by decide +kernel
theorem dX8_areTopTwoSame_17 : decode cX8_areTopTwoSame 17 = .ok (.getfield 31, 3) := by decide +kernel
theorem dX8_areTopTwoSame_20 : decode cX8_areTopTwoSame 20 = .ok (.iconst 2, 1) := by decide +kernel
theorem dX8_areTopTwoSame_21 : decode cX8_areTopTwoSame 21 = .ok (.isub, 1) := by decide +kernel
theorem dX8_areTopTwoSame_22 : decode cX8_areTopTwoSame 22 = .ok (.iaload, 1) := by decide +kernel
theorem dX8_areTopTwoSame_23 : decode cX8_areTopTwoSame 23 = .ok (.iload_n 1, 1) := by decide +kernel
theorem dX8_areTopTwoSame_24 : decode cX8_areTopTwoSame 24 = .ok (.if_icmp .eq 5, 3) := by decide +kernel
theorem dX8_areTopTwoSame_27 : decode cX8_areTopTwoSame 27 = .ok (.iconst 0, 1) := by decide +kernel
theorem dX8_areTopTwoSame_28 : decode cX8_areTopTwoSame 28 = .ok (.ireturn, 1) := by decide +kernel
theorem dX8_areTopTwoSame_29 : decode cX8_areTopTwoSame 29 = .ok (.iconst 0, 1) := by decide +kernel
theorem dX8_areTopTwoSame_30 : decode cX8_areTopTwoSame 30 = .ok (.istore_n 2, 1) := by decide +kernel
theorem dX8_areTopTwoSame_31 : decode cX8_areTopTwoSame 31 = .ok (.iload_n 2, 1) := by decide +kernel
theorem dX8_areTopTwoSame_32 : decode cX8_areTopTwoSame 32 = .ok (.iload_n 1, 1) := by decide +kernel
theorem dX8_areTopTwoSame_33 : decode cX8_areTopTwoSame 33 = .ok (.if_icmp .ge 50, 3) := by decide +kernel
theorem dX8_areTopTwoSame_36 : decode cX8_areTopTwoSame 36 = .ok (.aload_n 0, 1) := by decide +kernel
theorem dX8_areTopTwoSame_37 : decode cX8_areTopTwoSame 37 = .ok (.getfield 11, 3) := by decide +kernel
theorem dX8_areTopTwoSame_40 : decode cX8_areTopTwoSame 40 = .ok (.aload_n 0, 1) := by decide +kernel
theorem dX8_areTopTwoSame_41 : decode cX8_areTopTwoSame 41 = .ok (.getfield 15, 3) := by decide +kernel
theorem dX8_areTopTwoSame_44 : decode cX8_areTopTwoSame 44 = .ok (.aload_n 0, 1) := by decide +kernel
theorem dX8_areTopTwoSame_45 : decode cX8_areTopTwoSame 45 = .ok (.getfield 31, 3) := by decide +kernel
theorem dX8_areTopTwoSame_48 : decode cX8_areTopTwoSame 48 = .ok (.iconst 1, 1) := by decide +kernel
theorem dX8_areTopTwoSame_49 : decode cX8_areTopTwoSame 49 = .ok (.isub, 1) := by decide +kernel
theorem dX8_areTopTwoSame_50 : decode cX8_areTopTwoSame 50 = .ok (.iaload, 1) := by decide +kernel
theorem dX8_areTopTwoSame_51 : decode cX8_areTopTwoSame 51 = .ok (.iload_n 2, 1) := by decide +kernel
theorem dX8_areTopTwoSame_52 : decode cX8_areTopTwoSame 52 = .ok (.iadd, 1) := by decide +kernel
theorem dX8_areTopTwoSame_53 : decode cX8_areTopTwoSame 53 = .ok (.baload, 1) := by decide +kernel
theorem dX8_areTopTwoSame_54 : decode cX8_areTopTwoSame 54 = .ok (.aload_n 0, 1) := by decide +kernel
theorem dX8_areTopTwoSame_55 : decode cX8_areTopTwoSame 55 = .ok (.getfield 11, 3) := by decide +kernel
theorem dX8_areTopTwoSame_58 : decode cX8_areTopTwoSame 58 = .ok (.aload_n 0, 1) := by decide +kernel
theorem dX8_areTopTwoSame_59 : decode cX8_areTopTwoSame 59 = .ok (.getfield 15, 3) := by decide +kernel
theorem dX8_areTopTwoSame_62 : decode cX8_areTopTwoSame 62 = .ok (.aload_n 0, 1) := by decide +kernel
theorem dX8_areTopTwoSame_63 : decode cX8_areTopTwoSame 63 = .ok (.getfield 31, 3) := by decide +kernel
theorem dX8_areTopTwoSame_66 : decode cX8_areTopTwoSame 66 = .ok (.iconst 2, 1) := by decide +kernel
theorem dX8_areTopTwoSame_67 : decode cX8_areTopTwoSame 67 = .ok (.isub, 1) := by decide +kernel
theorem dX8_areTopTwoSame_68 : decode cX8_areTopTwoSame 68 = .ok (.iaload, 1) := by decide +kernel
theorem dX8_areTopTwoSame_69 : decode cX8_areTopTwoSame 69 = .ok (.iload_n 2, 1) := by decide +kernel
theorem dX8_areTopTwoSame_70 : decode cX8_areTopTwoSame 70 = .ok (.iadd, 1) := by decide +kernel
theorem dX8_areTopTwoSame_71 : decode cX8_areTopTwoSame 71 = .ok (.baload, 1) := by decide +kernel
theorem dX8_areTopTwoSame_72 : decode cX8_areTopTwoSame 72 = .ok (.if_icmp .eq 5, 3) := by decide +kernel
theorem dX8_areTopTwoSame_75 : decode cX8_areTopTwoSame 75 = .ok (.iconst 0, 1) := by decide +kernel
theorem dX8_areTopTwoSame_76 : decode cX8_areTopTwoSame 76 = .ok (.ireturn, 1) := by decide +kernel
theorem dX8_areTopTwoSame_77 : decode cX8_areTopTwoSame 77 = .ok (.iinc 2 1, 3) := by decide +kernel
theorem dX8_areTopTwoSame_80 : decode cX8_areTopTwoSame 80 = .ok (.goto (-49), 3) := by decide +kernel
theorem dX8_areTopTwoSame_83 : decode cX8_areTopTwoSame 83 = .ok (.iconst 1, 1) := by decide +kernel
theorem dX8_areTopTwoSame_84 : decode cX8_areTopTwoSame 84 = .ok (.ireturn, 1) := by decide +kernel
abbrev mX8_hasNumber : ks_M := (RX8, cX8_hasNumber, 3, (some .boolean), "hasNumber")
theorem dX8_hasNumber_0 : decode cX8_hasNumber 0 = .ok (.iload_n 1, 1) := by decide +kernel
theorem dX8_hasNumber_1 : decode cX8_hasNumber 1 = .ok (.aload_n 0, 1) := by decide +kernel
theorem dX8_hasNumber_2 : decode cX8_hasNumber 2 = .ok (.getfield 31, 3) := by decide +kernel
theorem dX8_hasNumber_5 : decode cX8_hasNumber 5 = .ok (.if_icmp .ge 24, 3) := by decide +kernel
theorem dX8_hasNumber_8 : decode cX8_hasNumber 8 = .ok (.aload_n 0, 1) := by decide +kernel
theorem dX8_hasNumber_9 : decode cX8_hasNumber 9 = .ok (.getfield 19, 3) := by decide +kernel
theorem dX8_hasNumber_12 : decode cX8_hasNumber 12 = .ok (.aload_n 0, 1) := by decide +kernel
theorem dX8_hasNumber_13 : decode cX8_hasNumber 13 = .ok (.getfield 31, 3) := by decide +kernel
theorem dX8_hasNumber_16 : decode cX8_hasNumber 16 = .ok (.iconst 1, 1) := by decide +kernel
theorem dX8_hasNumber_17 : decode cX8_hasNumber 17 = .ok (.isub, 1) := by decide +kernel
theorem dX8_hasNumber_18 : decode cX8_hasNumber 18 = .ok (.iload_n 1, 1) := by decide +kernel
theorem dX8_hasNumber_19 : decode cX8_hasNumber 19 = .ok (.isub, 1) := by decide +kernel
theorem dX8_hasNumber_20 : decode cX8_hasNumber 20 = .ok (.iaload, 1) := by decide +kernel
theorem dX8_hasNumber_21 : decode cX8_hasNumber 21 = .ok (.iload_n 2, 1) := by decide +kernel
theorem dX8_hasNumber_22 : decode cX8_hasNumber 22 = .ok (.if_icmp .gt 7, 3) := by decide +kernel
theorem dX8_hasNumber_25 : decode cX8_hasNumber 25 = .ok (.iconst 1, 1) := by decide +kernel
theorem dX8_hasNumber_26 : decode cX8_hasNumber 26 = .ok (.goto 4, 3) := by decide +kernel
theorem dX8_hasNumber_29 : decode cX8_hasNumber 29 = .ok (.iconst 0, 1) := by decide +kernel
theorem dX8_hasNumber_30 : decode cX8_hasNumber 30 = .ok (.ireturn, 1) := by decide +kernel
abbrev mX8_number : ks_M := (RX8, cX8_number, 7, (some .long), "number")
theorem dX8_number_0 : decode cX8_number 0 = .ok (.aload_n 0, 1) := by decide +kernel
theorem dX8_number_1 : decode cX8_number 1 = .ok (.getfield 19, 3) := by decide +kernel
theorem dX8_number_4 : decode cX8_number 4 = .ok (.aload_n 0, 1) := by decide +kernel
theorem dX8_number_5 : decode cX8_number 5 = .ok (.getfield 31, 3) := by decide +kernel
theorem dX8_number_8 : decode cX8_number 8 = .ok (.iconst 1, 1) := by decide +kernel
theorem dX8_number_9 : decode cX8_number 9 = .ok (.isub, 1) := by decide +kernel
theorem dX8_number_10 : decode cX8_number 10 = .ok (.iload_n 1, 1) := by decide +kernel
theorem dX8_number_11 : decode cX8_number 11 = .ok (.isub, 1) := by decide +kernel
theorem dX8_number_12 : decode cX8_number 12 = .ok (.iaload, 1) := by decide +kernel
theorem dX8_number_13 : decode cX8_number 13 = .ok (.istore_n 2, 1) := by decide +kernel
theorem dX8_number_14 : decode cX8_number 14 = .ok (.iload_n 2, 1) := by decide +kernel
theorem dX8_number_15 : decode cX8_number 15 = .ok (.ifCond .ne 5, 3) := by decide +kernel
theorem dX8_number_18 : decode cX8_number 18 = .ok (.lconst 0, 1) := by decide +kernel
theorem dX8_number_19 : decode cX8_number 19 = .ok (.lreturn, 1) := by decide +kernel
theorem dX8_number_20 : decode cX8_number 20 = .ok (.lconst 0, 1) := by decide +kernel
theorem dX8_number_21 : decode cX8_number 21 = .ok (.lstore_n 3, 1) := by decide +kernel
theorem dX8_number_22 : decode cX8_number 22 = .ok (.iload_n 2, 1) := by decide +kernel
theorem dX8_number_23 : decode cX8_number 23 = .ok (.iconst 1, 1) := by decide +kernel
theorem dX8_number_24 : decode cX8_number 24 = .ok (.isub, 1) := by decide +kernel
theorem dX8_number_25 : decode cX8_number 25 = .ok (.istore 5, 2) := by decide +kernel
theorem dX8_number_27 : decode cX8_number 27 = .ok (.iload 5, 2) := by decide +kernel
theorem dX8_number_29 : decode cX8_number 29 = .ok (.ifCond .lt 41, 3) := by decide +kernel
theorem dX8_number_32 : decode cX8_number 32 = .ok (.lload_n 3, 1) := by decide +kernel
theorem dX8_number_33 : decode cX8_number 33 = .ok (.bipush 8, 2) := by decide +kernel
theorem dX8_number_35 : decode cX8_number 35 = .ok (.lshl, 1) := by decide +kernel
theorem dX8_number_36 : decode cX8_number 36 = .ok (.aload_n 0, 1) := by decide +kernel
theorem dX8_number_37 : decode cX8_number 37 = .ok (.getfield 11, 3) := by decide +kernel
theorem dX8_number_40 : decode cX8_number 40 = .ok (.aload_n 0, 1) := by decide +kernel
theorem dX8_number_41 : decode cX8_number 41 = .ok (.getfield 15, 3) := by decide +kernel
theorem dX8_number_44 : decode cX8_number 44 = .ok (.aload_n 0, 1) := by decide +kernel
theorem dX8_number_45 : decode cX8_number 45 = .ok (.getfield 31, 3) := by decide +kernel
theorem dX8_number_48 : decode cX8_number 48 = .ok (.iconst 1, 1) := by decide +kernel
theorem dX8_number_49 : decode cX8_number 49 = .ok (.isub, 1) := by decide +kernel
theorem dX8_number_50 : decode cX8_number 50 = .ok (.iload_n 1, 1) := by decide +kernel
theorem dX8_number_51 : decode cX8_number 51 = .ok (.isub, 1) := by decide +kernel
theorem dX8_number_52 : decode cX8_number 52 = .ok (.iaload, 1) := by decide +kernel
theorem dX8_number_53 : decode cX8_number 53 = .ok (.iload 5, 2) := by decide +kernel
theorem dX8_number_55 : decode cX8_number 55 = .ok (.iadd, 1) := by decide +kernel
theorem dX8_number_56 : decode cX8_number 56 = .ok (.baload, 1) := by decide +kernel
theorem dX8_number_57 : decode cX8_number 57 = .ok (.sipush 255, 3) := by decide +kernel
theorem dX8_number_60 : decode cX8_number 60 = .ok (.iand, 1) := by decide +kernel
theorem dX8_number_61 : decode cX8_number 61 = .ok (.i2l, 1) := by decide +kernel
theorem dX8_number_62 : decode cX8_number 62 = .ok (.lor, 1) := by decide +kernel
theorem dX8_number_63 : decode cX8_number 63 = .ok (.lstore_n 3, 1) := by decide +kernel
theorem dX8_number_64 : decode cX8_number 64 = .ok (.iinc 5 (-1), 3) := by decide +kernel
theorem dX8_number_67 : decode cX8_number 67 = .ok (.goto (-40), 3) := by decide +kernel
theorem dX8_number_70 : decode cX8_number 70 = .ok (.lconst 1, 1) := by decide +kernel
theorem dX8_number_71 : decode cX8_number 71 = .ok (.bipush 8, 2) := by decide +kernel
theorem dX8_number_73 : decode cX8_number 73 = .ok (.iload_n 2, 1) := by decide +kernel
theorem dX8_number_74 : decode cX8_number 74 = .ok (.imul, 1) := by decide +kernel
theorem dX8_number_75 : decode cX8_number 75 = .ok (.iconst 1, 1) := by decide +kernel
theorem dX8_number_76 : decode cX8_number 76 = .ok (.isub, 1) := by decide +kernel
theorem dX8_number_77 : decode cX8_number 77 = .ok (.lshl, 1) := by decide +kernel
theorem dX8_number_78 : decode cX8_number 78 = .ok (.lstore 5, 2) := by decide +kernel
theorem dX8_number_80 : decode cX8_number 80 = .ok (.lload_n 3, 1) := by decide +kernel
theorem dX8_number_81 : decode cX8_number 81 = .ok (.lload 5, 2) := by decide +kernel
theorem dX8_number_83 : decode cX8_number 83 = .ok (.land, 1) := by decide +kernel
theorem dX8_number_84 : decode cX8_number 84 = .ok (.lconst 0, 1) := by decide +kernel
theorem dX8_number_85 : decode cX8_number 85 = .ok (.lcmp, 1) := by decide +kernel
theorem dX8_number_86 : decode cX8_number 86 = .ok (.ifCond .ne 7, 3) := by decide +kernel
theorem dX8_number_89 : decode cX8_number 89 = .ok (.lload_n 3, 1) := by decide +kernel
theorem dX8_number_90 : decode cX8_number 90 = .ok (.goto 8, 3) := by decide +kernel
theorem dX8_number_93 : decode cX8_number 93 = .ok (.lload_n 3, 1) := by decide +kernel
theorem dX8_number_94 : decode cX8_number 94 = .ok (.lload 5, 2) := by decide +kernel
theorem dX8_number_96 : decode cX8_number 96 = .ok (.lxor, 1) := by decide +kernel
theorem dX8_number_97 : decode cX8_number 97 = .ok (.lneg, 1) := by decide +kernel
theorem dX8_number_98 : decode cX8_number 98 = .ok (.lreturn, 1) := by decide +kernel
theorem cl_X10 : vwCl[13]? = some (RX10, TX10, 11) := rfl
theorem in_X10 : ∀ w ∈ u_ws RX10 TX10 11, w ∈ lw_tbl ∧ goodWord w = true := by decide +kernel
abbrev mX10_init : ks_M := (RX10, cX10_init, 1, none, "<init>")
theorem dX10_init_0 : decode cX10_init 0 = .ok (.aload_n 0, 1) := by decide +kernel
theorem dX10_init_1 : decode cX10_init 1 = .ok (.invokespecial 3, 3) := by decide +kernel
theorem dX10_init_4 : decode cX10_init 4 = .ok (.aload_n 0, 1) := by decide +kernel
theorem dX10_init_5 : decode cX10_init 5 = .ok (.bipush 40, 2) := by decide +kernel
theorem dX10_init_7 : decode cX10_init 7 = .ok (.newarray .int, 2) := by decide +kernel
theorem dX10_init_9 : decode cX10_init 9 = .ok (.putfield 9, 3) := by decide +kernel
theorem dX10_init_12 : decode cX10_init 12 = .ok (.aload_n 0, 1) := by decide +kernel
theorem dX10_init_13 : decode cX10_init 13 = .ok (.bipush 40, 2) := by decide +kernel
theorem dX10_init_15 : decode cX10_init 15 = .ok (.newarray .int, 2) := by decide +kernel
theorem dX10_init_17 : decode cX10_init 17 = .ok (.putfield 15, 3) := by decide +kernel
theorem dX10_init_20 : decode cX10_init 20 = .ok (.aload_n 0, 1) := by decide +kernel
theorem dX10_init_21 : decode cX10_init 21 = .ok (.bipush 40, 2) := by decide +kernel
theorem dX10_init_23 : decode cX10_init 23 = .ok (.newarray .int, 2) := by decide +kernel
theorem dX10_init_25 : decode cX10_init 25 = .ok (.putfield 18, 3) := by decide +kernel
theorem dX10_init_28 : decode cX10_init 28 = .ok (.aload_n 0, 1) := by decide +kernel
theorem dX10_init_29 : decode cX10_init 29 = .ok (.sipush 180, 3) := by decide +kernel
theorem dX10_init_32 : decode cX10_init 32 = .ok (.newarray .int, 2) := by decide +kernel
theorem dX10_init_34 : decode cX10_init 34 = .ok (.putfield 21, 3) := by decide +kernel
theorem dX10_init_37 : decode cX10_init 37 = .ok (.aload_n 0, 1) := by decide +kernel
theorem dX10_init_38 : decode cX10_init 38 = .ok (.sipush 180, 3) := by decide +kernel
theorem dX10_init_41 : decode cX10_init 41 = .ok (.newarray .int, 2) := by decide +kernel
theorem dX10_init_43 : decode cX10_init 43 = .ok (.putfield 24, 3) := by decide +kernel
theorem dX10_init_46 : decode cX10_init 46 = .ok (.aload_n 0, 1) := by decide +kernel
theorem dX10_init_47 : decode cX10_init 47 = .ok (.sipush 180, 3) := by decide +kernel
theorem dX10_init_50 : decode cX10_init 50 = .ok (.newarray .int, 2) := by decide +kernel
theorem dX10_init_52 : decode cX10_init 52 = .ok (.putfield 27, 3) := by decide +kernel
theorem dX10_init_55 : decode cX10_init 55 = .ok (.return_, 1) := by decide +kernel
abbrev mX10_read : ks_M := (RX10, cX10_read, 5, (some .int), "read")
theorem dX10_read_0 : decode cX10_read 0 = .ok (.aload_n 0, 1) := by decide +kernel
theorem dX10_read_1 : decode cX10_read 1 = .ok (.aload_n 1, 1) := by decide +kernel
theorem dX10_read_2 : decode cX10_read 2 = .ok (.putfield 30, 3) := by decide +kernel
theorem dX10_read_5 : decode cX10_read 5 = .ok (.aload_n 0, 1) := by decide +kernel
theorem dX10_read_6 : decode cX10_read 6 = .ok (.iload_n 2, 1) := by decide +kernel
theorem dX10_read_7 : decode cX10_read 7 = .ok (.putfield 34, 3) := by decide +kernel
theorem dX10_read_10 : decode cX10_read 10 = .ok (.aload_n 0, 1) := by decide +kernel
theorem dX10_read_11 : decode cX10_read 11 = .ok (.iload_n 2, 1) := by decide +kernel
theorem dX10_read_12 : decode cX10_read 12 = .ok (.iconst 4, 1) := by decide +kernel
theorem dX10_read_13 : decode cX10_read 13 = .ok (.iadd, 1) := by decide +kernel
theorem dX10_read_14 : decode cX10_read 14 = .ok (.putfield 38, 3) := by decide +kernel
theorem dX10_read_17 : decode cX10_read 17 = .ok (.aload_n 0, 1) := by decide +kernel
theorem dX10_read_18 : decode cX10_read 18 = .ok (.aload_n 0, 1) := by decide +kernel
theorem dX10_read_19 : decode cX10_read 19 = .ok (.iload_n 3, 1) := by decide +kernel
theorem dX10_read_20 : decode cX10_read 20 = .ok (.aload_n 0, 1) := by decide +kernel
theorem dX10_read_21 : decode cX10_read 21 = .ok (.getfield 9, 3) := by decide +kernel
theorem dX10_read_24 : decode cX10_read 24 = .ok (.arraylength, 1) := by decide +kernel
theorem dX10_read_25 : decode cX10_read 25 = .ok (.invokevirtual 41, 3) := by decide +kernel
theorem dX10_read_28 : decode cX10_read 28 = .ok (.putfield 45, 3) := by decide +kernel
theorem dX10_read_31 : decode cX10_read 31 = .ok (.iconst 0, 1) := by decide +kernel
theorem dX10_read_32 : decode cX10_read 32 = .ok (.istore 4, 2) := by decide +kernel
theorem dX10_read_34 : decode cX10_read 34 = .ok (.iload 4, 2) := by decide +kernel
theorem dX10_read_36 : decode cX10_read 36 = .ok (.aload_n 0, 1) := by decide +kernel
theorem dX10_read_37 : decode cX10_read 37 = .ok (.getfield 45, 3) := by decide +kernel
theorem dX10_read_40 : decode cX10_read 40 = .ok (.if_icmp .ge 85, 3) := by decide +kernel
theorem dX10_read_43 : decode cX10_read 43 = .ok (.aload_n 0, 1) := by decide +kernel
theorem dX10_read_44 : decode cX10_read 44 = .ok (.getfield 9, 3) := by decide +kernel
theorem dX10_read_47 : decode cX10_read 47 = .ok (.iload 4, 2) := by decide +kernel
theorem dX10_read_49 : decode cX10_read 49 = .ok (.aload_n 0, 1) := by decide +kernel
theorem dX10_read_50 : decode cX10_read 50 = .ok (.getfield 38, 3) := by decide +kernel
theorem dX10_read_53 : decode cX10_read 53 = .ok (.iastore, 1) := by decide +kernel
theorem dX10_read_54 : decode cX10_read 54 = .ok (.aload_n 0, 1) := by decide +kernel
theorem dX10_read_55 : decode cX10_read 55 = .ok (.dup, 1) := by decide +kernel
theorem dX10_read_56 : decode cX10_read 56 = .ok (.getfield 38, 3) := by decide +kernel
theorem dX10_read_59 : decode cX10_read 59 = .ok (.bipush 36, 2) := by decide +kernel
theorem dX10_read_61 : decode cX10_read 61 = .ok (.iadd, 1) := by decide +kernel
theorem dX10_read_62 : decode cX10_read 62 = .ok (.putfield 38, 3) := by decide +kernel
theorem dX10_read_65 : decode cX10_read 65 = .ok (.aload_n 0, 1) := by decide +kernel
theorem dX10_read_66 : decode cX10_read 66 = .ok (.getfield 18, 3) := by decide +kernel
theorem dX10_read_69 : decode cX10_read 69 = .ok (.iload 4, 2) := by decide +kernel
theorem dX10_read_71 : decode cX10_read 71 = .ok (.aload_n 0, 1) := by decide +kernel
theorem dX10_read_72 : decode cX10_read 72 = .ok (.iload_n 3, 1) := by decide +kernel
theorem dX10_read_73 : decode cX10_read 73 = .ok (.iload_n 3, 1) := by decide +kernel
theorem dX10_read_74 : decode cX10_read 74 = .ok (.invokevirtual 41, 3) := by decide +kernel
theorem dX10_read_77 : decode cX10_read 77 = .ok (.iastore, 1) := by decide +kernel
theorem dX10_read_78 : decode cX10_read 78 = .ok (.aload_n 0, 1) := by decide +kernel
theorem dX10_read_79 : decode cX10_read 79 = .ok (.getfield 18, 3) := by decide +kernel
theorem dX10_read_82 : decode cX10_read 82 = .ok (.iload 4, 2) := by decide +kernel
theorem dX10_read_84 : decode cX10_read 84 = .ok (.iaload, 1) := by decide +kernel
theorem dX10_read_85 : decode cX10_read 85 = .ok (.ifCond .ge 5, 3) := by decide +kernel
theorem dX10_read_88 : decode cX10_read 88 = .ok (.iconst (-1), 1) := by decide +kernel
theorem dX10_read_89 : decode cX10_read 89 = .ok (.ireturn, 1) := by decide +kernel
theorem dX10_read_90 : decode cX10_read 90 = .ok (.aload_n 0, 1) := by decide +kernel
theorem dX10_read_91 : decode cX10_read 91 = .ok (.getfield 15, 3) := by decide +kernel
theorem dX10_read_94 : decode cX10_read 94 = .ok (.iload 4, 2) := by decide +kernel
theorem dX10_read_96 : decode cX10_read 96 = .ok (.aload_n 0, 1) := by decide +kernel
theorem dX10_read_97 : decode cX10_read 97 = .ok (.getfield 38, 3) := by decide +kernel
theorem dX10_read_100 : decode cX10_read 100 = .ok (.iastore, 1) := by decide +kernel
theorem dX10_read_101 : decode cX10_read 101 = .ok (.aload_n 0, 1) := by decide +kernel
theorem dX10_read_102 : decode cX10_read 102 = .ok (.dup, 1) := by decide +kernel
theorem dX10_read_103 : decode cX10_read 103 = .ok (.getfield 38, 3) := by decide +kernel
theorem dX10_read_106 : decode cX10_read 106 = .ok (.aload_n 0, 1) := by decide +kernel
theorem dX10_read_107 : decode cX10_read 107 = .ok (.getfield 18, 3) := by decide +kernel
theorem dX10_read_110 : decode cX10_read 110 = .ok (.iload 4, 2) := by decide +kernel
theorem dX10_read_112 : decode cX10_read 112 = .ok (.iaload, 1) := by decide +kernel
theorem dX10_read_113 : decode cX10_read 113 = .ok (.iconst 4, 1) := by decide +kernel
theorem dX10_read_114 : decode cX10_read 114 = .ok (.iadd, 1) := by decide +kernel
theorem dX10_read_115 : decode cX10_read 115 = .ok (.iadd, 1) := by decide +kernel
theorem dX10_read_116 : decode cX10_read 116 = .ok (.putfield 38, 3) := by decide +kernel
theorem dX10_read_119 : decode cX10_read 119 = .ok (.iinc 4 1, 3) := by decide +kernel
theorem dX10_read_122 : decode cX10_read 122 = .ok (.goto (-88), 3) := by decide +kernel
theorem dX10_read_125 : decode cX10_read 125 = .ok (.aload_n 0, 1) := by decide +kernel
theorem dX10_read_126 : decode cX10_read 126 = .ok (.aload_n 0, 1) := by decide +kernel
theorem dX10_read_127 : decode cX10_read 127 = .ok (.getfield 45, 3) := by decide +kernel
theorem dX10_read_130 : decode cX10_read 130 = .ok (.ifCond .ge 7, 3) := by decide +kernel
theorem dX10_read_133 : decode cX10_read 133 = .ok (.iconst (-1), 1) := by decide +kernel
theorem dX10_read_134 : decode cX10_read 134 = .ok (.goto 13, 3) := by decide +kernel
theorem dX10_read_137 : decode cX10_read 137 = .ok (.aload_n 0, 1) := by decide +kernel
theorem dX10_read_138 : decode cX10_read 138 = .ok (.iload_n 3, 1) := by decide +kernel
theorem dX10_read_139 : decode cX10_read 139 = .ok (.aload_n 0, 1) := by decide +kernel
theorem dX10_read_140 : decode cX10_read 140 = .ok (.getfield 21, 3) := by decide +kernel
theorem dX10_read_143 : decode cX10_read 143 = .ok (.arraylength, 1) := by decide +kernel
theorem dX10_read_144 : decode cX10_read 144 = .ok (.invokevirtual 41, 3) := by decide +kernel
theorem dX10_read_147 : decode cX10_read 147 = .ok (.putfield 48, 3) := by decide +kernel
theorem dX10_read_150 : decode cX10_read 150 = .ok (.iconst 0, 1) := by decide +kernel
theorem dX10_read_151 : decode cX10_read 151 = .ok (.istore 4, 2) := by decide +kernel
theorem dX10_read_153 : decode cX10_read 153 = .ok (.iload 4, 2) := by decide +kernel
theorem dX10_read_155 : decode cX10_read 155 = .ok (.aload_n 0, 1) := by decide +kernel
theorem dX10_read_156 : decode cX10_read 156 = .ok (.getfield 48, 3) := by decide +kernel
theorem dX10_read_159 : decode cX10_read 159 = .ok (.if_icmp .ge 83, 3) := by decide +kernel
theorem dX10_read_162 : decode cX10_read 162 = .ok (.aload_n 0, 1) := by decide +kernel
theorem dX10_read_163 : decode cX10_read 163 = .ok (.getfield 21, 3) := by decide +kernel
theorem dX10_read_166 : decode cX10_read 166 = .ok (.iload 4, 2) := by decide +kernel
theorem dX10_read_168 : decode cX10_read 168 = .ok (.aload_n 0, 1) := by decide +kernel
theorem dX10_read_169 : decode cX10_read 169 = .ok (.getfield 38, 3) := by decide +kernel
theorem dX10_read_172 : decode cX10_read 172 = .ok (.iastore, 1) := by decide +kernel
theorem dX10_read_173 : decode cX10_read 173 = .ok (.aload_n 0, 1) := by decide +kernel
theorem dX10_read_174 : decode cX10_read 174 = .ok (.dup, 1) := by decide +kernel
theorem dX10_read_175 : decode cX10_read 175 = .ok (.getfield 38, 3) := by decide +kernel
theorem dX10_read_178 : decode cX10_read 178 = .ok (.bipush 8, 2) := by decide +kernel
theorem dX10_read_180 : decode cX10_read 180 = .ok (.iadd, 1) := by decide +kernel
theorem dX10_read_181 : decode cX10_read 181 = .ok (.putfield 38, 3) := by decide +kernel
theorem dX10_read_184 : decode cX10_read 184 = .ok (.aload_n 0, 1) := by decide +kernel
theorem dX10_read_185 : decode cX10_read 185 = .ok (.getfield 27, 3) := by decide +kernel
theorem dX10_read_188 : decode cX10_read 188 = .ok (.iload 4, 2) := by decide +kernel
theorem dX10_read_190 : decode cX10_read 190 = .ok (.aload_n 0, 1) := by decide +kernel
theorem dX10_read_191 : decode cX10_read 191 = .ok (.iload_n 3, 1) := by decide +kernel
theorem dX10_read_192 : decode cX10_read 192 = .ok (.iload_n 3, 1) := by decide +kernel
theorem dX10_read_193 : decode cX10_read 193 = .ok (.invokevirtual 41, 3) := by decide +kernel
theorem dX10_read_196 : decode cX10_read 196 = .ok (.iastore, 1) := by decide +kernel
theorem dX10_read_197 : decode cX10_read 197 = .ok (.aload_n 0, 1) := by decide +kernel
theorem dX10_read_198 : decode cX10_read 198 = .ok (.getfield 27, 3) := by decide +kernel
theorem dX10_read_201 : decode cX10_read 201 = .ok (.iload 4, 2) := by decide +kernel
theorem dX10_read_203 : decode cX10_read 203 = .ok (.iaload, 1) := by decide +kernel
theorem dX10_read_204 : decode cX10_read 204 = .ok (.ifCond .ge 5, 3) := by decide +kernel
theorem dX10_read_207 : decode cX10_read 207 = .ok (.iconst (-1), 1) := by decide +kernel
theorem dX10_read_208 : decode cX10_read 208 = .ok (.ireturn, 1) := by decide +kernel
theorem dX10_read_209 : decode cX10_read 209 = .ok (.aload_n 0, 1) := by decide +kernel
theorem dX10_read_210 : decode cX10_read 210 = .ok (.getfield 24, 3) := by decide +kernel
theorem dX10_read_213 : decode cX10_read 213 = .ok (.iload 4, 2) := by decide +kernel
theorem dX10_read_215 : decode cX10_read 215 = .ok (.aload_n 0, 1) := by decide +kernel
theorem dX10_read_216 : decode cX10_read 216 = .ok (.getfield 38, 3) := by decide +kernel
theorem dX10_read_219 : decode cX10_read 219 = .ok (.iastore, 1) := by decide +kernel
theorem dX10_read_220 : decode cX10_read 220 = .ok (.aload_n 0, 1) := by decide +kernel
theorem dX10_read_221 : decode cX10_read 221 = .ok (.dup, 1) := by decide +kernel
theorem dX10_read_222 : decode cX10_read 222 = .ok (.getfield 38, 3) := by decide +kernel
theorem dX10_read_225 : decode cX10_read 225 = .ok (.aload_n 0, 1) := by decide +kernel
theorem dX10_read_226 : decode cX10_read 226 = .ok (.getfield 27, 3) := by decide +kernel
theorem dX10_read_229 : decode cX10_read 229 = .ok (.iload 4, 2) := by decide +kernel
theorem dX10_read_231 : decode cX10_read 231 = .ok (.iaload, 1) := by decide +kernel
theorem dX10_read_232 : decode cX10_read 232 = .ok (.iadd, 1) := by decide +kernel
theorem dX10_read_233 : decode cX10_read 233 = .ok (.putfield 38, 3) := by decide +kernel
theorem dX10_read_236 : decode cX10_read 236 = .ok (.iinc 4 1, 3) := by decide +kernel
theorem dX10_read_239 : decode cX10_read 239 = .ok (.goto (-86), 3) := by decide +kernel
theorem dX10_read_242 : decode cX10_read 242 = .ok (.aload_n 0, 1) := by decide +kernel
theorem dX10_read_243 : decode cX10_read 243 = .ok (.dup, 1) := by decide +kernel
theorem dX10_read_244 : decode cX10_read 244 = .ok (.getfield 38, 3) := by decide +kernel
theorem dX10_read_247 : decode cX10_read 247 = .ok (.iconst 4, 1) := by decide +kernel
theorem dX10_read_248 : decode cX10_read 248 = .ok (.iadd, 1) := by decide +kernel
theorem dX10_read_249 : decode cX10_read 249 = .ok (.putfield 38, 3) := by decide +kernel
theorem dX10_read_252 : decode cX10_read 252 = .ok (.aload_n 0, 1) := by decide +kernel
theorem dX10_read_253 : decode cX10_read 253 = .ok (.getfield 48, 3) := by decide +kernel
theorem dX10_read_256 : decode cX10_read 256 = .ok (.ifCond .lt 11, 3) := by decide +kernel
theorem dX10_read_259 : decode cX10_read 259 = .ok (.aload_n 0, 1) := by decide +kernel
theorem dX10_read_260 : decode cX10_read 260 = .ok (.getfield 38, 3) := by decide +kernel
theorem dX10_read_263 : decode cX10_read 263 = .ok (.iload_n 3, 1) := by decide +kernel
theorem dX10_read_264 : decode cX10_read 264 = .ok (.if_icmp .le 7, 3) := by decide +kernel
theorem dX10_read_267 : decode cX10_read 267 = .ok (.iconst (-1), 1) := by decide +kernel
theorem dX10_read_268 : decode cX10_read 268 = .ok (.goto 7, 3) := by decide +kernel
theorem dX10_read_271 : decode cX10_read 271 = .ok (.aload_n 0, 1) := by decide +kernel
theorem dX10_read_272 : decode cX10_read 272 = .ok (.getfield 38, 3) := by decide +kernel
theorem dX10_read_275 : decode cX10_read 275 = .ok (.ireturn, 1) := by decide +kernel
abbrev mX10_sequence : ks_M := (RX10, cX10_sequence, 2, (some .long), "sequence")
theorem dX10_sequence_0 : decode cX10_sequence 0 = .ok (.aload_n 0, 1) := by decide +kernel
theorem dX10_sequence_1 : decode cX10_sequence 1 = .ok (.getfield 30, 3) := by decide +kernel
theorem dX10_sequence_4 : decode cX10_sequence 4 = .ok (.aload_n 0, 1) := by decide +kernel
theorem dX10_sequence_5 : decode cX10_sequence 5 = .ok (.getfield 15, 3) := by decide +kernel
theorem dX10_sequence_8 : decode cX10_sequence 8 = .ok (.iload_n 1, 1) := by decide +kernel
theorem dX10_sequence_9 : decode cX10_sequence 9 = .ok (.iaload, 1) := by decide +kernel
theorem dX10_sequence_10 : decode cX10_sequence 10 = .ok (.aload_n 0, 1) := by decide +kernel
theorem dX10_sequence_11 : decode cX10_sequence 11 = .ok (.getfield 18, 3) := by decide +kernel
theorem dX10_sequence_14 : decode cX10_sequence 14 = .ok (.iload_n 1, 1) := by decide +kernel
theorem dX10_sequence_15 : decode cX10_sequence 15 = .ok (.iaload, 1) := by decide +kernel
theorem dX10_sequence_16 : decode cX10_sequence 16 = .ok (.iadd, 1) := by decide +kernel
theorem dX10_sequence_17 : decode cX10_sequence 17 = .ok (.iconst 4, 1) := by decide +kernel
theorem dX10_sequence_18 : decode cX10_sequence 18 = .ok (.invokestatic 51, 3) := by decide +kernel
theorem dX10_sequence_21 : decode cX10_sequence 21 = .ok (.lreturn, 1) := by decide +kernel
abbrev mX10_lock : ks_M := (RX10, cX10_lock, 1, (some .long), "lock")
theorem dX10_lock_0 : decode cX10_lock 0 = .ok (.aload_n 0, 1) := by decide +kernel
theorem dX10_lock_1 : decode cX10_lock 1 = .ok (.getfield 30, 3) := by decide +kernel
theorem dX10_lock_4 : decode cX10_lock 4 = .ok (.aload_n 0, 1) := by decide +kernel
theorem dX10_lock_5 : decode cX10_lock 5 = .ok (.getfield 38, 3) := by decide +kernel
theorem dX10_lock_8 : decode cX10_lock 8 = .ok (.iconst 4, 1) := by decide +kernel
theorem dX10_lock_9 : decode cX10_lock 9 = .ok (.isub, 1) := by decide +kernel
theorem dX10_lock_10 : decode cX10_lock 10 = .ok (.iconst 4, 1) := by decide +kernel
theorem dX10_lock_11 : decode cX10_lock 11 = .ok (.invokestatic 51, 3) := by decide +kernel
theorem dX10_lock_14 : decode cX10_lock 14 = .ok (.lreturn, 1) := by decide +kernel
abbrev mX10_value : ks_M := (RX10, cX10_value, 2, (some .long), "value")
theorem dX10_value_0 : decode cX10_value 0 = .ok (.aload_n 0, 1) := by decide +kernel
theorem dX10_value_1 : decode cX10_value 1 = .ok (.getfield 30, 3) := by decide +kernel
theorem dX10_value_4 : decode cX10_value 4 = .ok (.aload_n 0, 1) := by decide +kernel
theorem dX10_value_5 : decode cX10_value 5 = .ok (.getfield 21, 3) := by decide +kernel
theorem dX10_value_8 : decode cX10_value 8 = .ok (.iload_n 1, 1) := by decide +kernel
theorem dX10_value_9 : decode cX10_value 9 = .ok (.iaload, 1) := by decide +kernel
theorem dX10_value_10 : decode cX10_value 10 = .ok (.bipush 8, 2) := by decide +kernel
theorem dX10_value_12 : decode cX10_value 12 = .ok (.invokestatic 51, 3) := by decide +kernel
theorem dX10_value_15 : decode cX10_value 15 = .ok (.lreturn, 1) := by decide +kernel
abbrev mX10_allValues : ks_M := (RX10, cX10_allValues, 4, (some .long), "allValues")
theorem dX10_allValues_0 : decode cX10_allValues 0 = .ok (.lconst 0, 1) := by decide +kernel
theorem dX10_allValues_1 : decode cX10_allValues 1 = .ok (.lstore_n 1, 1) := by decide +kernel
theorem dX10_allValues_2 : decode cX10_allValues 2 = .ok (.iconst 0, 1) := by decide +kernel
theorem dX10_allValues_3 : decode cX10_allValues 3 = .ok (.istore_n 3, 1) := by decide +kernel
theorem dX10_allValues_4 : decode cX10_allValues 4 = .ok (.iload_n 3, 1) := by decide +kernel
theorem dX10_allValues_5 : decode cX10_allValues 5 = .ok (.aload_n 0, 1) := by decide +kernel
theorem dX10_allValues_6 : decode cX10_allValues 6 = .ok (.getfield 48, 3) := by decide +kernel
theorem dX10_allValues_9 : decode cX10_allValues 9 = .ok (.if_icmp .ge 17, 3) := by decide +kernel
theorem dX10_allValues_12 : decode cX10_allValues 12 = .ok (.lload_n 1, 1) := by decide +kernel
theorem dX10_allValues_13 : decode cX10_allValues 13 = .ok (.aload_n 0, 1) := by decide +kernel
theorem dX10_allValues_14 : decode cX10_allValues 14 = .ok (.iload_n 3, 1) := by decide +kernel
theorem dX10_allValues_15 : decode cX10_allValues 15 = .ok (.invokevirtual 57, 3) := by decide +kernel
theorem dX10_allValues_18 : decode cX10_allValues 18 = .ok (.ladd, 1) := by decide +kernel
theorem dX10_allValues_19 : decode cX10_allValues 19 = .ok (.lstore_n 1, 1) := by decide +kernel
theorem dX10_allValues_20 : decode cX10_allValues 20 = .ok (.iinc 3 1, 3) := by decide +kernel
theorem dX10_allValues_23 : decode cX10_allValues 23 = .ok (.goto (-19), 3) := by decide +kernel
theorem dX10_allValues_26 : decode cX10_allValues 26 = .ok (.lload_n 1, 1) := by decide +kernel
theorem dX10_allValues_27 : decode cX10_allValues 27 = .ok (.lreturn, 1) := by decide +kernel
abbrev mX10_refusal : ks_M := (RX10, cX10_refusal, 3, (some .int), "refusal")
theorem dX10_refusal_0 : decode cX10_refusal 0 = .ok (.aload_n 0, 1) := by decide +kernel
theorem dX10_refusal_1 : decode cX10_refusal 1 = .ok (.getfield 45, 3) := by decide +kernel
theorem dX10_refusal_4 : decode cX10_refusal 4 = .ok (.iconst 1, 1) := by decide +kernel
theorem dX10_refusal_5 : decode cX10_refusal 5 = .ok (.if_icmp .ne 15, 3) := by decide +kernel
theorem dX10_refusal_8 : decode cX10_refusal 8 = .ok (.aload_n 0, 1) := by decide +kernel
theorem dX10_refusal_9 : decode cX10_refusal 9 = .ok (.iconst 0, 1) := by decide +kernel
theorem dX10_refusal_10 : decode cX10_refusal 10 = .ok (.invokevirtual 61, 3) := by decide +kernel
theorem dX10_refusal_13 : decode cX10_refusal 13 = .ok (.ifCond .eq 7, 3) := by decide +kernel
theorem dX10_refusal_16 : decode cX10_refusal 16 = .ok (.iconst 1, 1) := by decide +kernel
theorem dX10_refusal_17 : decode cX10_refusal 17 = .ok (.goto 4, 3) := by decide +kernel
theorem dX10_refusal_20 : decode cX10_refusal 20 = .ok (.iconst 0, 1) := by decide +kernel
theorem dX10_refusal_21 : decode cX10_refusal 21 = .ok (.iload_n 1, 1) := by decide +kernel
theorem dX10_refusal_22 : decode cX10_refusal 22 = .ok (.if_icmp .eq 6, 3) := by decide +kernel
theorem dX10_refusal_25 : decode cX10_refusal 25 = .ok (.bipush 7, 2) := by decide +kernel
theorem dX10_refusal_27 : decode cX10_refusal 27 = .ok (.ireturn, 1) := by decide +kernel
theorem dX10_refusal_28 : decode cX10_refusal 28 = .ok (.aload_n 0, 1) := by decide +kernel
theorem dX10_refusal_29 : decode cX10_refusal 29 = .ok (.getfield 45, 3) := by decide +kernel
theorem dX10_refusal_32 : decode cX10_refusal 32 = .ok (.ifCond .eq 17, 3) := by decide +kernel
theorem dX10_refusal_35 : decode cX10_refusal 35 = .ok (.aload_n 0, 1) := by decide +kernel
theorem dX10_refusal_36 : decode cX10_refusal 36 = .ok (.getfield 48, 3) := by decide +kernel
theorem dX10_refusal_39 : decode cX10_refusal 39 = .ok (.ifCond .eq 10, 3) := by decide +kernel
theorem dX10_refusal_42 : decode cX10_refusal 42 = .ok (.aload_n 0, 1) := by decide +kernel
theorem dX10_refusal_43 : decode cX10_refusal 43 = .ok (.invokevirtual 65, 3) := by decide +kernel
theorem dX10_refusal_46 : decode cX10_refusal 46 = .ok (.ifCond .ne 6, 3) := by decide +kernel
theorem dX10_refusal_49 : decode cX10_refusal 49 = .ok (.bipush 8, 2) := by decide +kernel
theorem dX10_refusal_51 : decode cX10_refusal 51 = .ok (.ireturn, 1) := by decide +kernel
theorem dX10_refusal_52 : decode cX10_refusal 52 = .ok (.iload_n 1, 1) := by decide +kernel
theorem dX10_refusal_53 : decode cX10_refusal 53 = .ok (.ifCond .eq 31, 3) := by decide +kernel
theorem dX10_refusal_56 : decode cX10_refusal 56 = .ok (.aload_n 0, 1) := by decide +kernel
theorem dX10_refusal_57 : decode cX10_refusal 57 = .ok (.getfield 18, 3) := by decide +kernel
theorem dX10_refusal_60 : decode cX10_refusal 60 = .ok (.iconst 0, 1) := by decide +kernel
theorem dX10_refusal_61 : decode cX10_refusal 61 = .ok (.iaload, 1) := by decide +kernel
theorem dX10_refusal_62 : decode cX10_refusal 62 = .ok (.iconst 2, 1) := by decide +kernel
theorem dX10_refusal_63 : decode cX10_refusal 63 = .ok (.if_icmp .lt 14, 3) := by decide +kernel
theorem dX10_refusal_66 : decode cX10_refusal 66 = .ok (.aload_n 0, 1) := by decide +kernel
theorem dX10_refusal_67 : decode cX10_refusal 67 = .ok (.getfield 18, 3) := by decide +kernel
theorem dX10_refusal_70 : decode cX10_refusal 70 = .ok (.iconst 0, 1) := by decide +kernel
theorem dX10_refusal_71 : decode cX10_refusal 71 = .ok (.iaload, 1) := by decide +kernel
theorem dX10_refusal_72 : decode cX10_refusal 72 = .ok (.bipush 100, 2) := by decide +kernel
theorem dX10_refusal_74 : decode cX10_refusal 74 = .ok (.if_icmp .le 8, 3) := by decide +kernel
theorem dX10_refusal_77 : decode cX10_refusal 77 = .ok (.bipush 8, 2) := by decide +kernel
theorem dX10_refusal_79 : decode cX10_refusal 79 = .ok (.goto 4, 3) := by decide +kernel
theorem dX10_refusal_82 : decode cX10_refusal 82 = .ok (.iconst 0, 1) := by decide +kernel
theorem dX10_refusal_83 : decode cX10_refusal 83 = .ok (.ireturn, 1) := by decide +kernel
theorem dX10_refusal_84 : decode cX10_refusal 84 = .ok (.iconst 0, 1) := by decide +kernel
theorem dX10_refusal_85 : decode cX10_refusal 85 = .ok (.istore_n 2, 1) := by decide +kernel
theorem dX10_refusal_86 : decode cX10_refusal 86 = .ok (.iload_n 2, 1) := by decide +kernel
theorem dX10_refusal_87 : decode cX10_refusal 87 = .ok (.aload_n 0, 1) := by decide +kernel
theorem dX10_refusal_88 : decode cX10_refusal 88 = .ok (.getfield 45, 3) := by decide +kernel
theorem dX10_refusal_91 : decode cX10_refusal 91 = .ok (.if_icmp .ge 28, 3) := by decide +kernel
theorem dX10_refusal_94 : decode cX10_refusal 94 = .ok (.aload_n 0, 1) := by decide +kernel
theorem dX10_refusal_95 : decode cX10_refusal 95 = .ok (.iload_n 2, 1) := by decide +kernel
theorem dX10_refusal_96 : decode cX10_refusal 96 = .ok (.invokevirtual 61, 3) := by decide +kernel
theorem dX10_refusal_99 : decode cX10_refusal 99 = .ok (.ifCond .ne 11, 3) := by decide +kernel
theorem dX10_refusal_102 : decode cX10_refusal 102 = .ok (.aload_n 0, 1) := by decide +kernel
theorem dX10_refusal_103 : decode cX10_refusal 103 = .ok (.iload_n 2, 1) := by decide +kernel
theorem dX10_refusal_104 : decode cX10_refusal 104 = .ok (.invokevirtual 69, 3) := by decide +kernel
theorem dX10_refusal_107 : decode cX10_refusal 107 = .ok (.ifCond .eq 6, 3) := by decide +kernel
theorem dX10_refusal_110 : decode cX10_refusal 110 = .ok (.bipush 8, 2) := by decide +kernel
theorem dX10_refusal_112 : decode cX10_refusal 112 = .ok (.ireturn, 1) := by decide +kernel
theorem dX10_refusal_113 : decode cX10_refusal 113 = .ok (.iinc 2 1, 3) := by decide +kernel
theorem dX10_refusal_116 : decode cX10_refusal 116 = .ok (.goto (-30), 3) := by decide +kernel
theorem dX10_refusal_119 : decode cX10_refusal 119 = .ok (.iconst 0, 1) := by decide +kernel
theorem dX10_refusal_120 : decode cX10_refusal 120 = .ok (.ireturn, 1) := by decide +kernel
abbrev mX10_isLast : ks_M := (RX10, cX10_isLast, 7, (some .boolean), "isLast")
theorem dX10_isLast_0 : decode cX10_isLast 0 = .ok (.aload_n 0, 1) := by decide +kernel
theorem dX10_isLast_1 : decode cX10_isLast 1 = .ok (.invokevirtual 72, 3) := by decide +kernel
theorem dX10_isLast_4 : decode cX10_isLast 4 = .ok (.lstore 4, 2) := by decide +kernel
theorem dX10_isLast_6 : decode cX10_isLast 6 = .ok (.lload 4, 2) := by decide +kernel
theorem dX10_isLast_8 : decode cX10_isLast 8 = .ok (.lconst 0, 1) := by decide +kernel
theorem dX10_isLast_9 : decode cX10_isLast 9 = .ok (.lcmp, 1) := by decide +kernel
theorem dX10_isLast_10 : decode cX10_isLast 10 = .ok (.ifCond .eq 24, 3) := by decide +kernel
theorem dX10_isLast_13 : decode cX10_isLast 13 = .ok (.lload 4, 2) := by decide +kernel
theorem dX10_isLast_15 : decode cX10_isLast 15 = .ok (.lload 4, 2) := by decide +kernel
theorem dX10_isLast_17 : decode cX10_isLast 17 = .ok (.ldc2_w 76, 3) := by decide +kernel
theorem dX10_isLast_20 : decode cX10_isLast 20 = .ok (.lcmp, 1) := by decide +kernel
theorem dX10_isLast_21 : decode cX10_isLast 21 = .ok (.ifCond .ge 8, 3) := by decide +kernel
theorem dX10_isLast_24 : decode cX10_isLast 24 = .ok (.iload_n 1, 1) := by decide +kernel
theorem dX10_isLast_25 : decode cX10_isLast 25 = .ok (.i2l, 1) := by decide +kernel
theorem dX10_isLast_26 : decode cX10_isLast 26 = .ok (.goto 4, 3) := by decide +kernel
theorem dX10_isLast_29 : decode cX10_isLast 29 = .ok (.lload_n 2, 1) := by decide +kernel
theorem dX10_isLast_30 : decode cX10_isLast 30 = .ok (.lcmp, 1) := by decide +kernel
theorem dX10_isLast_31 : decode cX10_isLast 31 = .ok (.ifCond .ge 5, 3) := by decide +kernel
theorem dX10_isLast_34 : decode cX10_isLast 34 = .ok (.iconst 1, 1) := by decide +kernel
theorem dX10_isLast_35 : decode cX10_isLast 35 = .ok (.ireturn, 1) := by decide +kernel
theorem dX10_isLast_36 : decode cX10_isLast 36 = .ok (.iconst 0, 1) := by decide +kernel
theorem dX10_isLast_37 : decode cX10_isLast 37 = .ok (.istore 6, 2) := by decide +kernel
theorem dX10_isLast_39 : decode cX10_isLast 39 = .ok (.iload 6, 2) := by decide +kernel
theorem dX10_isLast_41 : decode cX10_isLast 41 = .ok (.aload_n 0, 1) := by decide +kernel
theorem dX10_isLast_42 : decode cX10_isLast 42 = .ok (.getfield 45, 3) := by decide +kernel
theorem dX10_isLast_45 : decode cX10_isLast 45 = .ok (.if_icmp .ge 24, 3) := by decide +kernel
theorem dX10_isLast_48 : decode cX10_isLast 48 = .ok (.aload_n 0, 1) := by decide +kernel
theorem dX10_isLast_49 : decode cX10_isLast 49 = .ok (.iload 6, 2) := by decide +kernel
theorem dX10_isLast_51 : decode cX10_isLast 51 = .ok (.invokevirtual 78, 3) := by decide +kernel
theorem dX10_isLast_54 : decode cX10_isLast 54 = .ok (.ldc2_w 81, 3) := by decide +kernel
theorem dX10_isLast_57 : decode cX10_isLast 57 = .ok (.lcmp, 1) := by decide +kernel
theorem dX10_isLast_58 : decode cX10_isLast 58 = .ok (.ifCond .eq 5, 3) := by decide +kernel
theorem dX10_isLast_61 : decode cX10_isLast 61 = .ok (.iconst 0, 1) := by decide +kernel
theorem dX10_isLast_62 : decode cX10_isLast 62 = .ok (.ireturn, 1) := by decide +kernel
theorem dX10_isLast_63 : decode cX10_isLast 63 = .ok (.iinc 6 1, 3) := by decide +kernel
theorem dX10_isLast_66 : decode cX10_isLast 66 = .ok (.goto (-27), 3) := by decide +kernel
theorem dX10_isLast_69 : decode cX10_isLast 69 = .ok (.iconst 1, 1) := by decide +kernel
theorem dX10_isLast_70 : decode cX10_isLast 70 = .ok (.ireturn, 1) := by decide +kernel
abbrev mX10_locksUntil : ks_M := (RX10, cX10_locksUntil, 6, (some .boolean), "locksUntil")
theorem dX10_locksUntil_0 : decode cX10_locksUntil 0 = .ok (.aload_n 0, 1) := by decide +kernel
theorem dX10_locksUntil_1 : decode cX10_locksUntil 1 = .ok (.invokevirtual 72, 3) := by decide +kernel
theorem dX10_locksUntil_4 : decode cX10_locksUntil 4 = .ok (.lstore 4, 2) := by decide +kernel
theorem dX10_locksUntil_6 : decode cX10_locksUntil 6 = .ok (.lload_n 1, 1) := by decide +kernel
theorem dX10_locksUntil_7 : decode cX10_locksUntil 7 = .ok (.lconst 0, 1) := by decide +kernel
theorem dX10_locksUntil_8 : decode cX10_locksUntil 8 = .ok (.lcmp, 1) := by decide +kernel
theorem dX10_locksUntil_9 : decode cX10_locksUntil 9 = .ok (.ifCond .lt 33, 3) := by decide +kernel
theorem dX10_locksUntil_12 : decode cX10_locksUntil 12 = .ok (.lload_n 1, 1) := by decide +kernel
theorem dX10_locksUntil_13 : decode cX10_locksUntil 13 = .ok (.ldc2_w 76, 3) := by decide +kernel
theorem dX10_locksUntil_16 : decode cX10_locksUntil 16 = .ok (.lcmp, 1) := by decide +kernel
theorem dX10_locksUntil_17 : decode cX10_locksUntil 17 = .ok (.ifCond .ge 7, 3) := by decide +kernel
theorem dX10_locksUntil_20 : decode cX10_locksUntil 20 = .ok (.iconst 1, 1) := by decide +kernel
theorem dX10_locksUntil_21 : decode cX10_locksUntil 21 = .ok (.goto 4, 3) := by decide +kernel
theorem dX10_locksUntil_24 : decode cX10_locksUntil 24 = .ok (.iconst 0, 1) := by decide +kernel
theorem dX10_locksUntil_25 : decode cX10_locksUntil 25 = .ok (.lload 4, 2) := by decide +kernel
theorem dX10_locksUntil_27 : decode cX10_locksUntil 27 = .ok (.ldc2_w 76, 3) := by decide +kernel
theorem dX10_locksUntil_30 : decode cX10_locksUntil 30 = .ok (.lcmp, 1) := by decide +kernel
theorem dX10_locksUntil_31 : decode cX10_locksUntil 31 = .ok (.ifCond .ge 7, 3) := by decide +kernel
theorem dX10_locksUntil_34 : decode cX10_locksUntil 34 = .ok (.iconst 1, 1) := by decide +kernel
theorem dX10_locksUntil_35 : decode cX10_locksUntil 35 = .ok (.goto 4, 3) := by decide +kernel
theorem dX10_locksUntil_38 : decode cX10_locksUntil 38 = .ok (.iconst 0, 1) := by decide +kernel
theorem dX10_locksUntil_39 : decode cX10_locksUntil 39 = .ok (.if_icmp .eq 5, 3) := by decide +kernel
theorem dX10_locksUntil_42 : decode cX10_locksUntil 42 = .ok (.iconst 0, 1) := by decide +kernel
theorem dX10_locksUntil_43 : decode cX10_locksUntil 43 = .ok (.ireturn, 1) := by decide +kernel
theorem dX10_locksUntil_44 : decode cX10_locksUntil 44 = .ok (.lload_n 1, 1) := by decide +kernel
theorem dX10_locksUntil_45 : decode cX10_locksUntil 45 = .ok (.lload 4, 2) := by decide +kernel
theorem dX10_locksUntil_47 : decode cX10_locksUntil 47 = .ok (.lcmp, 1) := by decide +kernel
theorem dX10_locksUntil_48 : decode cX10_locksUntil 48 = .ok (.ifCond .gt 19, 3) := by decide +kernel
theorem dX10_locksUntil_51 : decode cX10_locksUntil 51 = .ok (.aload_n 0, 1) := by decide +kernel
theorem dX10_locksUntil_52 : decode cX10_locksUntil 52 = .ok (.iload_n 3, 1) := by decide +kernel
theorem dX10_locksUntil_53 : decode cX10_locksUntil 53 = .ok (.invokevirtual 78, 3) := by decide +kernel
theorem dX10_locksUntil_56 : decode cX10_locksUntil 56 = .ok (.ldc2_w 81, 3) := by decide +kernel
theorem dX10_locksUntil_59 : decode cX10_locksUntil 59 = .ok (.lcmp, 1) := by decide +kernel
theorem dX10_locksUntil_60 : decode cX10_locksUntil 60 = .ok (.ifCond .eq 7, 3) := by decide +kernel
theorem dX10_locksUntil_63 : decode cX10_locksUntil 63 = .ok (.iconst 1, 1) := by decide +kernel
theorem dX10_locksUntil_64 : decode cX10_locksUntil 64 = .ok (.goto 4, 3) := by decide +kernel
theorem dX10_locksUntil_67 : decode cX10_locksUntil 67 = .ok (.iconst 0, 1) := by decide +kernel
theorem dX10_locksUntil_68 : decode cX10_locksUntil 68 = .ok (.ireturn, 1) := by decide +kernel
abbrev mX10_asks : ks_M := (RX10, cX10_asks, 3, (some .int), "asks")
theorem dX10_asks_0 : decode cX10_asks 0 = .ok (.iconst 0, 1) := by decide +kernel
theorem dX10_asks_1 : decode cX10_asks 1 = .ok (.istore_n 1, 1) := by decide +kernel
theorem dX10_asks_2 : decode cX10_asks 2 = .ok (.iconst 0, 1) := by decide +kernel
theorem dX10_asks_3 : decode cX10_asks 3 = .ok (.istore_n 2, 1) := by decide +kernel
theorem dX10_asks_4 : decode cX10_asks 4 = .ok (.iload_n 2, 1) := by decide +kernel
theorem dX10_asks_5 : decode cX10_asks 5 = .ok (.aload_n 0, 1) := by decide +kernel
theorem dX10_asks_6 : decode cX10_asks 6 = .ok (.getfield 45, 3) := by decide +kernel
theorem dX10_asks_9 : decode cX10_asks 9 = .ok (.if_icmp .ge 38, 3) := by decide +kernel
theorem dX10_asks_12 : decode cX10_asks 12 = .ok (.iload_n 1, 1) := by decide +kernel
theorem dX10_asks_13 : decode cX10_asks 13 = .ok (.aload_n 0, 1) := by decide +kernel
theorem dX10_asks_14 : decode cX10_asks 14 = .ok (.getfield 30, 3) := by decide +kernel
theorem dX10_asks_17 : decode cX10_asks 17 = .ok (.aload_n 0, 1) := by decide +kernel
theorem dX10_asks_18 : decode cX10_asks 18 = .ok (.getfield 15, 3) := by decide +kernel
theorem dX10_asks_21 : decode cX10_asks 21 = .ok (.iload_n 2, 1) := by decide +kernel
theorem dX10_asks_22 : decode cX10_asks 22 = .ok (.iaload, 1) := by decide +kernel
theorem dX10_asks_23 : decode cX10_asks 23 = .ok (.aload_n 0, 1) := by decide +kernel
theorem dX10_asks_24 : decode cX10_asks 24 = .ok (.getfield 15, 3) := by decide +kernel
theorem dX10_asks_27 : decode cX10_asks 27 = .ok (.iload_n 2, 1) := by decide +kernel
theorem dX10_asks_28 : decode cX10_asks 28 = .ok (.iaload, 1) := by decide +kernel
theorem dX10_asks_29 : decode cX10_asks 29 = .ok (.aload_n 0, 1) := by decide +kernel
theorem dX10_asks_30 : decode cX10_asks 30 = .ok (.getfield 18, 3) := by decide +kernel
theorem dX10_asks_33 : decode cX10_asks 33 = .ok (.iload_n 2, 1) := by decide +kernel
theorem dX10_asks_34 : decode cX10_asks 34 = .ok (.iaload, 1) := by decide +kernel
theorem dX10_asks_35 : decode cX10_asks 35 = .ok (.iadd, 1) := by decide +kernel
theorem dX10_asks_36 : decode cX10_asks 36 = .ok (.invokestatic 83, 3) := by decide +kernel
theorem dX10_asks_39 : decode cX10_asks 39 = .ok (.iadd, 1) := by decide +kernel
theorem dX10_asks_40 : decode cX10_asks 40 = .ok (.istore_n 1, 1) := by decide +kernel
theorem dX10_asks_41 : decode cX10_asks 41 = .ok (.iinc 2 1, 3) := by decide +kernel
theorem dX10_asks_44 : decode cX10_asks 44 = .ok (.goto (-40), 3) := by decide +kernel
theorem dX10_asks_47 : decode cX10_asks 47 = .ok (.iconst 0, 1) := by decide +kernel
theorem dX10_asks_48 : decode cX10_asks 48 = .ok (.istore_n 2, 1) := by decide +kernel
theorem dX10_asks_49 : decode cX10_asks 49 = .ok (.iload_n 2, 1) := by decide +kernel
theorem dX10_asks_50 : decode cX10_asks 50 = .ok (.aload_n 0, 1) := by decide +kernel
theorem dX10_asks_51 : decode cX10_asks 51 = .ok (.getfield 48, 3) := by decide +kernel
theorem dX10_asks_54 : decode cX10_asks 54 = .ok (.if_icmp .ge 38, 3) := by decide +kernel
theorem dX10_asks_57 : decode cX10_asks 57 = .ok (.iload_n 1, 1) := by decide +kernel
theorem dX10_asks_58 : decode cX10_asks 58 = .ok (.aload_n 0, 1) := by decide +kernel
theorem dX10_asks_59 : decode cX10_asks 59 = .ok (.getfield 30, 3) := by decide +kernel
theorem dX10_asks_62 : decode cX10_asks 62 = .ok (.aload_n 0, 1) := by decide +kernel
theorem dX10_asks_63 : decode cX10_asks 63 = .ok (.getfield 24, 3) := by decide +kernel
theorem dX10_asks_66 : decode cX10_asks 66 = .ok (.iload_n 2, 1) := by decide +kernel
theorem dX10_asks_67 : decode cX10_asks 67 = .ok (.iaload, 1) := by decide +kernel
theorem dX10_asks_68 : decode cX10_asks 68 = .ok (.aload_n 0, 1) := by decide +kernel
theorem dX10_asks_69 : decode cX10_asks 69 = .ok (.getfield 24, 3) := by decide +kernel
theorem dX10_asks_72 : decode cX10_asks 72 = .ok (.iload_n 2, 1) := by decide +kernel
theorem dX10_asks_73 : decode cX10_asks 73 = .ok (.iaload, 1) := by decide +kernel
theorem dX10_asks_74 : decode cX10_asks 74 = .ok (.aload_n 0, 1) := by decide +kernel
theorem dX10_asks_75 : decode cX10_asks 75 = .ok (.getfield 27, 3) := by decide +kernel
theorem dX10_asks_78 : decode cX10_asks 78 = .ok (.iload_n 2, 1) := by decide +kernel
theorem dX10_asks_79 : decode cX10_asks 79 = .ok (.iaload, 1) := by decide +kernel
theorem dX10_asks_80 : decode cX10_asks 80 = .ok (.iadd, 1) := by decide +kernel
theorem dX10_asks_81 : decode cX10_asks 81 = .ok (.invokestatic 83, 3) := by decide +kernel
theorem dX10_asks_84 : decode cX10_asks 84 = .ok (.iadd, 1) := by decide +kernel
theorem dX10_asks_85 : decode cX10_asks 85 = .ok (.istore_n 1, 1) := by decide +kernel
theorem dX10_asks_86 : decode cX10_asks 86 = .ok (.iinc 2 1, 3) := by decide +kernel
theorem dX10_asks_89 : decode cX10_asks 89 = .ok (.goto (-40), 3) := by decide +kernel
theorem dX10_asks_92 : decode cX10_asks 92 = .ok (.iload_n 1, 1) := by decide +kernel
theorem dX10_asks_93 : decode cX10_asks 93 = .ok (.ireturn, 1) := by decide +kernel
abbrev mX10_writeSigned : ks_M := (RX10, cX10_writeSigned, 9, (some .boolean), "writeSigned")
theorem dX10_writeSigned_0 : decode cX10_writeSigned 0 = .ok (.iload_n 3, 1) := by decide +kernel
theorem dX10_writeSigned_1 : decode cX10_writeSigned 1 = .ok (.bipush 31, 2) := by decide +kernel
theorem dX10_writeSigned_3 : decode cX10_writeSigned 3 = .ok (.iand, 1) := by decide +kernel
theorem dX10_writeSigned_4 : decode cX10_writeSigned 4 = .ok (.istore 5, 2) := by decide +kernel
theorem dX10_writeSigned_6 : decode cX10_writeSigned 6 = .ok (.iload 5, 2) := by decide +kernel
theorem dX10_writeSigned_8 : decode cX10_writeSigned 8 = .ok (.iconst 3, 1) := by decide +kernel
theorem dX10_writeSigned_9 : decode cX10_writeSigned 9 = .ok (.if_icmp .ne 13, 3) := by decide +kernel
theorem dX10_writeSigned_12 : decode cX10_writeSigned 12 = .ok (.iload_n 2, 1) := by decide +kernel
theorem dX10_writeSigned_13 : decode cX10_writeSigned 13 = .ok (.aload_n 0, 1) := by decide +kernel
theorem dX10_writeSigned_14 : decode cX10_writeSigned 14 = .ok (.getfield 48, 3) := by decide +kernel
theorem dX10_writeSigned_17 : decode cX10_writeSigned 17 = .ok (.if_icmp .lt 5, 3) := by decide +kernel
theorem dX10_writeSigned_20 : decode cX10_writeSigned 20 = .ok (.iconst 0, 1) := by decide +kernel
theorem dX10_writeSigned_21 : decode cX10_writeSigned 21 = .ok (.ireturn, 1) := by decide +kernel
theorem dX10_writeSigned_22 : decode cX10_writeSigned 22 = .ok (.iload_n 3, 1) := by decide +kernel
theorem dX10_writeSigned_23 : decode cX10_writeSigned 23 = .ok (.sipush 128, 3) := by decide +kernel
theorem dX10_writeSigned_26 : decode cX10_writeSigned 26 = .ok (.iand, 1) := by decide +kernel
theorem dX10_writeSigned_27 : decode cX10_writeSigned 27 = .ok (.ifCond .eq 7, 3) := by decide +kernel
theorem dX10_writeSigned_30 : decode cX10_writeSigned 30 = .ok (.iconst 1, 1) := by decide +kernel
theorem dX10_writeSigned_31 : decode cX10_writeSigned 31 = .ok (.goto 4, 3) := by decide +kernel
theorem dX10_writeSigned_34 : decode cX10_writeSigned 34 = .ok (.iconst 0, 1) := by decide +kernel
theorem dX10_writeSigned_35 : decode cX10_writeSigned 35 = .ok (.istore 6, 2) := by decide +kernel
theorem dX10_writeSigned_37 : decode cX10_writeSigned 37 = .ok (.aload_n 1, 1) := by decide +kernel
theorem dX10_writeSigned_38 : decode cX10_writeSigned 38 = .ok (.invokevirtual 89, 3) := by decide +kernel
theorem dX10_writeSigned_41 : decode cX10_writeSigned 41 = .ok (.aload_n 1, 1) := by decide +kernel
theorem dX10_writeSigned_42 : decode cX10_writeSigned 42 = .ok (.aload_n 0, 1) := by decide +kernel
theorem dX10_writeSigned_43 : decode cX10_writeSigned 43 = .ok (.getfield 30, 3) := by decide +kernel
theorem dX10_writeSigned_46 : decode cX10_writeSigned 46 = .ok (.aload_n 0, 1) := by decide +kernel
theorem dX10_writeSigned_47 : decode cX10_writeSigned 47 = .ok (.getfield 34, 3) := by decide +kernel
theorem dX10_writeSigned_50 : decode cX10_writeSigned 50 = .ok (.iconst 4, 1) := by decide +kernel
theorem dX10_writeSigned_51 : decode cX10_writeSigned 51 = .ok (.invokevirtual 92, 3) := by decide +kernel
theorem dX10_writeSigned_54 : decode cX10_writeSigned 54 = .ok (.aload_n 1, 1) := by decide +kernel
theorem dX10_writeSigned_55 : decode cX10_writeSigned 55 = .ok (.iload 6, 2) := by decide +kernel
theorem dX10_writeSigned_57 : decode cX10_writeSigned 57 = .ok (.ifCond .eq 7, 3) := by decide +kernel
theorem dX10_writeSigned_60 : decode cX10_writeSigned 60 = .ok (.iconst 1, 1) := by decide +kernel
theorem dX10_writeSigned_61 : decode cX10_writeSigned 61 = .ok (.goto 7, 3) := by decide +kernel
theorem dX10_writeSigned_64 : decode cX10_writeSigned 64 = .ok (.aload_n 0, 1) := by decide +kernel
theorem dX10_writeSigned_65 : decode cX10_writeSigned 65 = .ok (.getfield 45, 3) := by decide +kernel
theorem dX10_writeSigned_68 : decode cX10_writeSigned 68 = .ok (.invokevirtual 96, 3) := by decide +kernel
theorem dX10_writeSigned_71 : decode cX10_writeSigned 71 = .ok (.iload 6, 2) := by decide +kernel
theorem dX10_writeSigned_73 : decode cX10_writeSigned 73 = .ok (.ifCond .eq 7, 3) := by decide +kernel
theorem dX10_writeSigned_76 : decode cX10_writeSigned 76 = .ok (.iload_n 2, 1) := by decide +kernel
theorem dX10_writeSigned_77 : decode cX10_writeSigned 77 = .ok (.goto 4, 3) := by decide +kernel
theorem dX10_writeSigned_80 : decode cX10_writeSigned 80 = .ok (.iconst 0, 1) := by decide +kernel
theorem dX10_writeSigned_81 : decode cX10_writeSigned 81 = .ok (.istore 7, 2) := by decide +kernel
theorem dX10_writeSigned_83 : decode cX10_writeSigned 83 = .ok (.iload 7, 2) := by decide +kernel
theorem dX10_writeSigned_85 : decode cX10_writeSigned 85 = .ok (.iload 6, 2) := by decide +kernel
theorem dX10_writeSigned_87 : decode cX10_writeSigned 87 = .ok (.ifCond .eq 9, 3) := by decide +kernel
theorem dX10_writeSigned_90 : decode cX10_writeSigned 90 = .ok (.iload_n 2, 1) := by decide +kernel
theorem dX10_writeSigned_91 : decode cX10_writeSigned 91 = .ok (.iconst 1, 1) := by decide +kernel
theorem dX10_writeSigned_92 : decode cX10_writeSigned 92 = .ok (.iadd, 1) := by decide +kernel
theorem dX10_writeSigned_93 : decode cX10_writeSigned 93 = .ok (.goto 7, 3) := by decide +kernel
theorem dX10_writeSigned_96 : decode cX10_writeSigned 96 = .ok (.aload_n 0, 1) := by decide +kernel
theorem dX10_writeSigned_97 : decode cX10_writeSigned 97 = .ok (.getfield 45, 3) := by decide +kernel
theorem dX10_writeSigned_100 : decode cX10_writeSigned 100 = .ok (.if_icmp .ge 121, 3) := by decide +kernel
theorem dX10_writeSigned_103 : decode cX10_writeSigned 103 = .ok (.aload_n 1, 1) := by decide +kernel
theorem dX10_writeSigned_104 : decode cX10_writeSigned 104 = .ok (.aload_n 0, 1) := by decide +kernel
theorem dX10_writeSigned_105 : decode cX10_writeSigned 105 = .ok (.getfield 30, 3) := by decide +kernel
theorem dX10_writeSigned_108 : decode cX10_writeSigned 108 = .ok (.aload_n 0, 1) := by decide +kernel
theorem dX10_writeSigned_109 : decode cX10_writeSigned 109 = .ok (.getfield 9, 3) := by decide +kernel
theorem dX10_writeSigned_112 : decode cX10_writeSigned 112 = .ok (.iload 7, 2) := by decide +kernel
theorem dX10_writeSigned_114 : decode cX10_writeSigned 114 = .ok (.iaload, 1) := by decide +kernel
theorem dX10_writeSigned_115 : decode cX10_writeSigned 115 = .ok (.bipush 36, 2) := by decide +kernel
theorem dX10_writeSigned_117 : decode cX10_writeSigned 117 = .ok (.invokevirtual 92, 3) := by decide +kernel
theorem dX10_writeSigned_120 : decode cX10_writeSigned 120 = .ok (.aload_n 1, 1) := by decide +kernel
theorem dX10_writeSigned_121 : decode cX10_writeSigned 121 = .ok (.iload 7, 2) := by decide +kernel
theorem dX10_writeSigned_123 : decode cX10_writeSigned 123 = .ok (.iload_n 2, 1) := by decide +kernel
theorem dX10_writeSigned_124 : decode cX10_writeSigned 124 = .ok (.if_icmp .ne 11, 3) := by decide +kernel
theorem dX10_writeSigned_127 : decode cX10_writeSigned 127 = .ok (.aload 4, 2) := by decide +kernel
theorem dX10_writeSigned_129 : decode cX10_writeSigned 129 = .ok (.getfield 100, 3) := by decide +kernel
theorem dX10_writeSigned_132 : decode cX10_writeSigned 132 = .ok (.goto 4, 3) := by decide +kernel
theorem dX10_writeSigned_135 : decode cX10_writeSigned 135 = .ok (.iconst 0, 1) := by decide +kernel
theorem dX10_writeSigned_136 : decode cX10_writeSigned 136 = .ok (.invokevirtual 96, 3) := by decide +kernel
theorem dX10_writeSigned_139 : decode cX10_writeSigned 139 = .ok (.aload_n 1, 1) := by decide +kernel
theorem dX10_writeSigned_140 : decode cX10_writeSigned 140 = .ok (.aload 4, 2) := by decide +kernel
theorem dX10_writeSigned_142 : decode cX10_writeSigned 142 = .ok (.getfield 103, 3) := by decide +kernel
theorem dX10_writeSigned_145 : decode cX10_writeSigned 145 = .ok (.iconst 0, 1) := by decide +kernel
theorem dX10_writeSigned_146 : decode cX10_writeSigned 146 = .ok (.iload 7, 2) := by decide +kernel
theorem dX10_writeSigned_148 : decode cX10_writeSigned 148 = .ok (.iload_n 2, 1) := by decide +kernel
theorem dX10_writeSigned_149 : decode cX10_writeSigned 149 = .ok (.if_icmp .ne 11, 3) := by decide +kernel
theorem dX10_writeSigned_152 : decode cX10_writeSigned 152 = .ok (.aload 4, 2) := by decide +kernel
theorem dX10_writeSigned_154 : decode cX10_writeSigned 154 = .ok (.getfield 100, 3) := by decide +kernel
theorem dX10_writeSigned_157 : decode cX10_writeSigned 157 = .ok (.goto 4, 3) := by decide +kernel
theorem dX10_writeSigned_160 : decode cX10_writeSigned 160 = .ok (.iconst 0, 1) := by decide +kernel
theorem dX10_writeSigned_161 : decode cX10_writeSigned 161 = .ok (.invokevirtual 92, 3) := by decide +kernel
theorem dX10_writeSigned_164 : decode cX10_writeSigned 164 = .ok (.iload 7, 2) := by decide +kernel
theorem dX10_writeSigned_166 : decode cX10_writeSigned 166 = .ok (.iload_n 2, 1) := by decide +kernel
theorem dX10_writeSigned_167 : decode cX10_writeSigned 167 = .ok (.if_icmp .eq 24, 3) := by decide +kernel
theorem dX10_writeSigned_170 : decode cX10_writeSigned 170 = .ok (.iload 5, 2) := by decide +kernel
theorem dX10_writeSigned_172 : decode cX10_writeSigned 172 = .ok (.iconst 2, 1) := by decide +kernel
theorem dX10_writeSigned_173 : decode cX10_writeSigned 173 = .ok (.if_icmp .eq 9, 3) := by decide +kernel
theorem dX10_writeSigned_176 : decode cX10_writeSigned 176 = .ok (.iload 5, 2) := by decide +kernel
theorem dX10_writeSigned_178 : decode cX10_writeSigned 178 = .ok (.iconst 3, 1) := by decide +kernel
theorem dX10_writeSigned_179 : decode cX10_writeSigned 179 = .ok (.if_icmp .ne 12, 3) := by decide +kernel
theorem dX10_writeSigned_182 : decode cX10_writeSigned 182 = .ok (.aload_n 1, 1) := by decide +kernel
theorem dX10_writeSigned_183 : decode cX10_writeSigned 183 = .ok (.lconst 0, 1) := by decide +kernel
theorem dX10_writeSigned_184 : decode cX10_writeSigned 184 = .ok (.iconst 4, 1) := by decide +kernel
theorem dX10_writeSigned_185 : decode cX10_writeSigned 185 = .ok (.invokevirtual 104, 3) := by decide +kernel
theorem dX10_writeSigned_188 : decode cX10_writeSigned 188 = .ok (.goto 27, 3) := by decide +kernel
theorem dX10_writeSigned_191 : decode cX10_writeSigned 191 = .ok (.aload_n 1, 1) := by decide +kernel
theorem dX10_writeSigned_192 : decode cX10_writeSigned 192 = .ok (.aload_n 0, 1) := by decide +kernel
theorem dX10_writeSigned_193 : decode cX10_writeSigned 193 = .ok (.getfield 30, 3) := by decide +kernel
theorem dX10_writeSigned_196 : decode cX10_writeSigned 196 = .ok (.aload_n 0, 1) := by decide +kernel
theorem dX10_writeSigned_197 : decode cX10_writeSigned 197 = .ok (.getfield 15, 3) := by decide +kernel
theorem dX10_writeSigned_200 : decode cX10_writeSigned 200 = .ok (.iload 7, 2) := by decide +kernel
theorem dX10_writeSigned_202 : decode cX10_writeSigned 202 = .ok (.iaload, 1) := by decide +kernel
theorem dX10_writeSigned_203 : decode cX10_writeSigned 203 = .ok (.aload_n 0, 1) := by decide +kernel
theorem dX10_writeSigned_204 : decode cX10_writeSigned 204 = .ok (.getfield 18, 3) := by decide +kernel
theorem dX10_writeSigned_207 : decode cX10_writeSigned 207 = .ok (.iload 7, 2) := by decide +kernel
theorem dX10_writeSigned_209 : decode cX10_writeSigned 209 = .ok (.iaload, 1) := by decide +kernel
theorem dX10_writeSigned_210 : decode cX10_writeSigned 210 = .ok (.iadd, 1) := by decide +kernel
theorem dX10_writeSigned_211 : decode cX10_writeSigned 211 = .ok (.iconst 4, 1) := by decide +kernel
theorem dX10_writeSigned_212 : decode cX10_writeSigned 212 = .ok (.invokevirtual 92, 3) := by decide +kernel
theorem dX10_writeSigned_215 : decode cX10_writeSigned 215 = .ok (.iinc 7 1, 3) := by decide +kernel
theorem dX10_writeSigned_218 : decode cX10_writeSigned 218 = .ok (.goto (-135), 3) := by decide +kernel
theorem dX10_writeSigned_221 : decode cX10_writeSigned 221 = .ok (.iload 5, 2) := by decide +kernel
theorem dX10_writeSigned_223 : decode cX10_writeSigned 223 = .ok (.iconst 2, 1) := by decide +kernel
theorem dX10_writeSigned_224 : decode cX10_writeSigned 224 = .ok (.if_icmp .ne 7, 3) := by decide +kernel
theorem dX10_writeSigned_227 : decode cX10_writeSigned 227 = .ok (.iconst 0, 1) := by decide +kernel
theorem dX10_writeSigned_228 : decode cX10_writeSigned 228 = .ok (.goto 19, 3) := by decide +kernel
theorem dX10_writeSigned_231 : decode cX10_writeSigned 231 = .ok (.iload 5, 2) := by decide +kernel
theorem dX10_writeSigned_233 : decode cX10_writeSigned 233 = .ok (.iconst 3, 1) := by decide +kernel
theorem dX10_writeSigned_234 : decode cX10_writeSigned 234 = .ok (.if_icmp .ne 9, 3) := by decide +kernel
theorem dX10_writeSigned_237 : decode cX10_writeSigned 237 = .ok (.iload_n 2, 1) := by decide +kernel
theorem dX10_writeSigned_238 : decode cX10_writeSigned 238 = .ok (.iconst 1, 1) := by decide +kernel
theorem dX10_writeSigned_239 : decode cX10_writeSigned 239 = .ok (.iadd, 1) := by decide +kernel
theorem dX10_writeSigned_240 : decode cX10_writeSigned 240 = .ok (.goto 7, 3) := by decide +kernel
theorem dX10_writeSigned_243 : decode cX10_writeSigned 243 = .ok (.aload_n 0, 1) := by decide +kernel
theorem dX10_writeSigned_244 : decode cX10_writeSigned 244 = .ok (.getfield 48, 3) := by decide +kernel
theorem dX10_writeSigned_247 : decode cX10_writeSigned 247 = .ok (.istore 7, 2) := by decide +kernel
theorem dX10_writeSigned_249 : decode cX10_writeSigned 249 = .ok (.aload_n 1, 1) := by decide +kernel
theorem dX10_writeSigned_250 : decode cX10_writeSigned 250 = .ok (.iload 7, 2) := by decide +kernel
theorem dX10_writeSigned_252 : decode cX10_writeSigned 252 = .ok (.invokevirtual 96, 3) := by decide +kernel
theorem dX10_writeSigned_255 : decode cX10_writeSigned 255 = .ok (.iconst 0, 1) := by decide +kernel
theorem dX10_writeSigned_256 : decode cX10_writeSigned 256 = .ok (.istore 8, 2) := by decide +kernel
theorem dX10_writeSigned_258 : decode cX10_writeSigned 258 = .ok (.iload 8, 2) := by decide +kernel
theorem dX10_writeSigned_260 : decode cX10_writeSigned 260 = .ok (.iload 7, 2) := by decide +kernel
theorem dX10_writeSigned_262 : decode cX10_writeSigned 262 = .ok (.if_icmp .ge 76, 3) := by decide +kernel
theorem dX10_writeSigned_265 : decode cX10_writeSigned 265 = .ok (.iload 5, 2) := by decide +kernel
theorem dX10_writeSigned_267 : decode cX10_writeSigned 267 = .ok (.iconst 3, 1) := by decide +kernel
theorem dX10_writeSigned_268 : decode cX10_writeSigned 268 = .ok (.if_icmp .ne 26, 3) := by decide +kernel
theorem dX10_writeSigned_271 : decode cX10_writeSigned 271 = .ok (.iload 8, 2) := by decide +kernel
theorem dX10_writeSigned_273 : decode cX10_writeSigned 273 = .ok (.iload_n 2, 1) := by decide +kernel
theorem dX10_writeSigned_274 : decode cX10_writeSigned 274 = .ok (.if_icmp .ge 20, 3) := by decide +kernel
theorem dX10_writeSigned_277 : decode cX10_writeSigned 277 = .ok (.aload_n 1, 1) := by decide +kernel
theorem dX10_writeSigned_278 : decode cX10_writeSigned 278 = .ok (.ldc2_w 108, 3) := by decide +kernel
theorem dX10_writeSigned_281 : decode cX10_writeSigned 281 = .ok (.bipush 8, 2) := by decide +kernel
theorem dX10_writeSigned_283 : decode cX10_writeSigned 283 = .ok (.invokevirtual 104, 3) := by decide +kernel
theorem dX10_writeSigned_286 : decode cX10_writeSigned 286 = .ok (.aload_n 1, 1) := by decide +kernel
theorem dX10_writeSigned_287 : decode cX10_writeSigned 287 = .ok (.iconst 0, 1) := by decide +kernel
theorem dX10_writeSigned_288 : decode cX10_writeSigned 288 = .ok (.invokevirtual 96, 3) := by decide +kernel
theorem dX10_writeSigned_291 : decode cX10_writeSigned 291 = .ok (.goto 41, 3) := by decide +kernel
theorem dX10_writeSigned_294 : decode cX10_writeSigned 294 = .ok (.aload_n 1, 1) := by decide +kernel
theorem dX10_writeSigned_295 : decode cX10_writeSigned 295 = .ok (.aload_n 0, 1) := by decide +kernel
theorem dX10_writeSigned_296 : decode cX10_writeSigned 296 = .ok (.getfield 30, 3) := by decide +kernel
theorem dX10_writeSigned_299 : decode cX10_writeSigned 299 = .ok (.aload_n 0, 1) := by decide +kernel
theorem dX10_writeSigned_300 : decode cX10_writeSigned 300 = .ok (.getfield 21, 3) := by decide +kernel
theorem dX10_writeSigned_303 : decode cX10_writeSigned 303 = .ok (.iload 8, 2) := by decide +kernel
theorem dX10_writeSigned_305 : decode cX10_writeSigned 305 = .ok (.iaload, 1) := by decide +kernel
theorem dX10_writeSigned_306 : decode cX10_writeSigned 306 = .ok (.aload_n 0, 1) := by decide +kernel
theorem dX10_writeSigned_307 : decode cX10_writeSigned 307 = .ok (.getfield 24, 3) := by decide +kernel
theorem dX10_writeSigned_310 : decode cX10_writeSigned 310 = .ok (.iload 8, 2) := by decide +kernel
theorem dX10_writeSigned_312 : decode cX10_writeSigned 312 = .ok (.iaload, 1) := by decide +kernel
theorem dX10_writeSigned_313 : decode cX10_writeSigned 313 = .ok (.aload_n 0, 1) := by decide +kernel
theorem dX10_writeSigned_314 : decode cX10_writeSigned 314 = .ok (.getfield 27, 3) := by decide +kernel
theorem dX10_writeSigned_317 : decode cX10_writeSigned 317 = .ok (.iload 8, 2) := by decide +kernel
theorem dX10_writeSigned_319 : decode cX10_writeSigned 319 = .ok (.iaload, 1) := by decide +kernel
theorem dX10_writeSigned_320 : decode cX10_writeSigned 320 = .ok (.iadd, 1) := by decide +kernel
theorem dX10_writeSigned_321 : decode cX10_writeSigned 321 = .ok (.aload_n 0, 1) := by decide +kernel
theorem dX10_writeSigned_322 : decode cX10_writeSigned 322 = .ok (.getfield 21, 3) := by decide +kernel
theorem dX10_writeSigned_325 : decode cX10_writeSigned 325 = .ok (.iload 8, 2) := by decide +kernel
theorem dX10_writeSigned_327 : decode cX10_writeSigned 327 = .ok (.iaload, 1) := by decide +kernel
theorem dX10_writeSigned_328 : decode cX10_writeSigned 328 = .ok (.isub, 1) := by decide +kernel
theorem dX10_writeSigned_329 : decode cX10_writeSigned 329 = .ok (.invokevirtual 92, 3) := by decide +kernel
theorem dX10_writeSigned_332 : decode cX10_writeSigned 332 = .ok (.iinc 8 1, 3) := by decide +kernel
theorem dX10_writeSigned_335 : decode cX10_writeSigned 335 = .ok (.goto (-77), 3) := by decide +kernel
theorem dX10_writeSigned_338 : decode cX10_writeSigned 338 = .ok (.aload_n 1, 1) := by decide +kernel
theorem dX10_writeSigned_339 : decode cX10_writeSigned 339 = .ok (.aload_n 0, 1) := by decide +kernel
theorem dX10_writeSigned_340 : decode cX10_writeSigned 340 = .ok (.getfield 30, 3) := by decide +kernel
theorem dX10_writeSigned_343 : decode cX10_writeSigned 343 = .ok (.aload_n 0, 1) := by decide +kernel
theorem dX10_writeSigned_344 : decode cX10_writeSigned 344 = .ok (.getfield 38, 3) := by decide +kernel
theorem dX10_writeSigned_347 : decode cX10_writeSigned 347 = .ok (.iconst 4, 1) := by decide +kernel
theorem dX10_writeSigned_348 : decode cX10_writeSigned 348 = .ok (.isub, 1) := by decide +kernel
theorem dX10_writeSigned_349 : decode cX10_writeSigned 349 = .ok (.iconst 4, 1) := by decide +kernel
theorem dX10_writeSigned_350 : decode cX10_writeSigned 350 = .ok (.invokevirtual 92, 3) := by decide +kernel
theorem dX10_writeSigned_353 : decode cX10_writeSigned 353 = .ok (.aload_n 1, 1) := by decide +kernel
theorem dX10_writeSigned_354 : decode cX10_writeSigned 354 = .ok (.iload_n 3, 1) := by decide +kernel
theorem dX10_writeSigned_355 : decode cX10_writeSigned 355 = .ok (.i2l, 1) := by decide +kernel
theorem dX10_writeSigned_356 : decode cX10_writeSigned 356 = .ok (.iconst 4, 1) := by decide +kernel
theorem dX10_writeSigned_357 : decode cX10_writeSigned 357 = .ok (.invokevirtual 104, 3) := by decide +kernel
theorem dX10_writeSigned_360 : decode cX10_writeSigned 360 = .ok (.iconst 1, 1) := by decide +kernel
theorem dX10_writeSigned_361 : decode cX10_writeSigned 361 = .ok (.ireturn, 1) := by decide +kernel
abbrev mX10_isNone : ks_M := (RX10, cX10_isNone, 4, (some .boolean), "isNone")
theorem dX10_isNone_0 : decode cX10_isNone 0 = .ok (.iconst 0, 1) := by decide +kernel
theorem dX10_isNone_1 : decode cX10_isNone 1 = .ok (.istore_n 2, 1) := by decide +kernel
theorem dX10_isNone_2 : decode cX10_isNone 2 = .ok (.iconst 0, 1) := by decide +kernel
theorem dX10_isNone_3 : decode cX10_isNone 3 = .ok (.istore_n 3, 1) := by decide +kernel
theorem dX10_isNone_4 : decode cX10_isNone 4 = .ok (.iload_n 3, 1) := by decide +kernel
theorem dX10_isNone_5 : decode cX10_isNone 5 = .ok (.bipush 32, 2) := by decide +kernel
theorem dX10_isNone_7 : decode cX10_isNone 7 = .ok (.if_icmp .ge 25, 3) := by decide +kernel
theorem dX10_isNone_10 : decode cX10_isNone 10 = .ok (.iload_n 2, 1) := by decide +kernel
theorem dX10_isNone_11 : decode cX10_isNone 11 = .ok (.aload_n 0, 1) := by decide +kernel
theorem dX10_isNone_12 : decode cX10_isNone 12 = .ok (.getfield 30, 3) := by decide +kernel
theorem dX10_isNone_15 : decode cX10_isNone 15 = .ok (.aload_n 0, 1) := by decide +kernel
theorem dX10_isNone_16 : decode cX10_isNone 16 = .ok (.getfield 9, 3) := by decide +kernel
theorem dX10_isNone_19 : decode cX10_isNone 19 = .ok (.iload_n 1, 1) := by decide +kernel
theorem dX10_isNone_20 : decode cX10_isNone 20 = .ok (.iaload, 1) := by decide +kernel
theorem dX10_isNone_21 : decode cX10_isNone 21 = .ok (.iload_n 3, 1) := by decide +kernel
theorem dX10_isNone_22 : decode cX10_isNone 22 = .ok (.iadd, 1) := by decide +kernel
theorem dX10_isNone_23 : decode cX10_isNone 23 = .ok (.baload, 1) := by decide +kernel
theorem dX10_isNone_24 : decode cX10_isNone 24 = .ok (.ior, 1) := by decide +kernel
theorem dX10_isNone_25 : decode cX10_isNone 25 = .ok (.istore_n 2, 1) := by decide +kernel
theorem dX10_isNone_26 : decode cX10_isNone 26 = .ok (.iinc 3 1, 3) := by decide +kernel
theorem dX10_isNone_29 : decode cX10_isNone 29 = .ok (.goto (-25), 3) := by decide +kernel
theorem dX10_isNone_32 : decode cX10_isNone 32 = .ok (.iload_n 2, 1) := by decide +kernel
theorem dX10_isNone_33 : decode cX10_isNone 33 = .ok (.ifCond .ne 31, 3) := by decide +kernel
theorem dX10_isNone_36 : decode cX10_isNone 36 = .ok (.aload_n 0, 1) := by decide +kernel
theorem dX10_isNone_37 : decode cX10_isNone 37 = .ok (.getfield 30, 3) := by decide +kernel
theorem dX10_isNone_40 : decode cX10_isNone 40 = .ok (.aload_n 0, 1) := by decide +kernel
theorem dX10_isNone_41 : decode cX10_isNone 41 = .ok (.getfield 9, 3) := by decide +kernel
theorem dX10_isNone_44 : decode cX10_isNone 44 = .ok (.iload_n 1, 1) := by decide +kernel
theorem dX10_isNone_45 : decode cX10_isNone 45 = .ok (.iaload, 1) := by decide +kernel
theorem dX10_isNone_46 : decode cX10_isNone 46 = .ok (.bipush 32, 2) := by decide +kernel
theorem dX10_isNone_48 : decode cX10_isNone 48 = .ok (.iadd, 1) := by decide +kernel
theorem dX10_isNone_49 : decode cX10_isNone 49 = .ok (.iconst 4, 1) := by decide +kernel
theorem dX10_isNone_50 : decode cX10_isNone 50 = .ok (.invokestatic 51, 3) := by decide +kernel
theorem dX10_isNone_53 : decode cX10_isNone 53 = .ok (.ldc2_w 81, 3) := by decide +kernel
theorem dX10_isNone_56 : decode cX10_isNone 56 = .ok (.lcmp, 1) := by decide +kernel
theorem dX10_isNone_57 : decode cX10_isNone 57 = .ok (.ifCond .ne 7, 3) := by decide +kernel
theorem dX10_isNone_60 : decode cX10_isNone 60 = .ok (.iconst 1, 1) := by decide +kernel
theorem dX10_isNone_61 : decode cX10_isNone 61 = .ok (.goto 4, 3) := by decide +kernel
theorem dX10_isNone_64 : decode cX10_isNone 64 = .ok (.iconst 0, 1) := by decide +kernel
theorem dX10_isNone_65 : decode cX10_isNone 65 = .ok (.ireturn, 1) := by decide +kernel
abbrev mX10_isTakenBefore : ks_M := (RX10, cX10_isTakenBefore, 4, (some .boolean), "isTakenBefore")
theorem dX10_isTakenBefore_0 : decode cX10_isTakenBefore 0 = .ok (.iconst 0, 1) := by decide +kernel
theorem dX10_isTakenBefore_1 : decode cX10_isTakenBefore 1 = .ok (.istore_n 2, 1) := by decide +kernel
theorem dX10_isTakenBefore_2 : decode cX10_isTakenBefore 2 = .ok (.iload_n 2, 1) := by decide +kernel
theorem dX10_isTakenBefore_3 : decode cX10_isTakenBefore 3 = .ok (.iload_n 1, 1) := by decide +kernel
theorem dX10_isTakenBefore_4 : decode cX10_isTakenBefore 4 = .ok (.if_icmp .ge 60, 3) := by decide +kernel
theorem dX10_isTakenBefore_7 : decode cX10_isTakenBefore 7 = .ok (.iconst 0, 1) := by decide +kernel
theorem dX10_isTakenBefore_8 : decode cX10_isTakenBefore 8 = .ok (.istore_n 3, 1) := by decide +kernel
theorem dX10_isTakenBefore_9 : decode cX10_isTakenBefore 9 = .ok (.iload_n 3, 1) := by decide +kernel
theorem dX10_isTakenBefore_10 : decode cX10_isTakenBefore 10 = .ok (.bipush 36, 2) := by decide +kernel
theorem dX10_isTakenBefore_12 : decode cX10_isTakenBefore 12 = .ok (.if_icmp .ge 38, 3) := by decide +kernel
theorem dX10_isTakenBefore_15 : decode cX10_isTakenBefore 15 = .ok (.aload_n 0, 1) := by decide +kernel
theorem dX10_isTakenBefore_16 : decode cX10_isTakenBefore 16 = .ok (.getfield 30, 3) := by decide +kernel
theorem dX10_isTakenBefore_19 : decode cX10_isTakenBefore 19 = .ok (.aload_n 0, 1) := by decide +kernel
theorem dX10_isTakenBefore_20 : decode cX10_isTakenBefore 20 = .ok (.getfield 9, 3) := by decide +kernel
theorem dX10_isTakenBefore_23 : decode cX10_isTakenBefore 23 = .ok (.iload_n 2, 1) := by decide +kernel
theorem dX10_isTakenBefore_24 : decode cX10_isTakenBefore 24 = .ok (.iaload, 1) := by decide +kernel
theorem dX10_isTakenBefore_25 : decode cX10_isTakenBefore 25 = .ok (.iload_n 3, 1) := by decide +kernel
theorem dX10_isTakenBefore_26 : decode cX10_isTakenBefore 26 = .ok (.iadd, 1) := by decide +kernel
theorem dX10_isTakenBefore_27 : decode cX10_isTakenBefore 27 = .ok (.baload, 1) := by decide +kernel
theorem dX10_isTakenBefore_28 : decode cX10_isTakenBefore 28 = .ok (.aload_n 0, 1) := by decide +kernel
theorem dX10_isTakenBefore_29 : decode cX10_isTakenBefore 29 = .ok (.getfield 30, 3) := by decide +kernel
theorem dX10_isTakenBefore_32 : decode cX10_isTakenBefore 32 = .ok (.aload_n 0, 1) := by decide +kernel
theorem dX10_isTakenBefore_33 : decode cX10_isTakenBefore 33 = .ok (.getfield 9, 3) := by decide +kernel
theorem dX10_isTakenBefore_36 : decode cX10_isTakenBefore 36 = .ok (.iload_n 1, 1) := by decide +kernel
theorem dX10_isTakenBefore_37 : decode cX10_isTakenBefore 37 = .ok (.iaload, 1) := by decide +kernel
theorem dX10_isTakenBefore_38 : decode cX10_isTakenBefore 38 = .ok (.iload_n 3, 1) := by decide +kernel
theorem dX10_isTakenBefore_39 : decode cX10_isTakenBefore 39 = .ok (.iadd, 1) := by decide +kernel
theorem dX10_isTakenBefore_40 : decode cX10_isTakenBefore 40 = .ok (.baload, 1) := by decide +kernel
theorem dX10_isTakenBefore_41 : decode cX10_isTakenBefore 41 = .ok (.if_icmp .ne 9, 3) := by decide +kernel
theorem dX10_isTakenBefore_44 : decode cX10_isTakenBefore 44 = .ok (.iinc 3 1, 3) := by decide +kernel
theorem dX10_isTakenBefore_47 : decode cX10_isTakenBefore 47 = .ok (.goto (-38), 3) := by decide +kernel
theorem dX10_isTakenBefore_50 : decode cX10_isTakenBefore 50 = .ok (.iload_n 3, 1) := by decide +kernel
theorem dX10_isTakenBefore_51 : decode cX10_isTakenBefore 51 = .ok (.bipush 36, 2) := by decide +kernel
theorem dX10_isTakenBefore_53 : decode cX10_isTakenBefore 53 = .ok (.if_icmp .ne 5, 3) := by decide +kernel
theorem dX10_isTakenBefore_56 : decode cX10_isTakenBefore 56 = .ok (.iconst 1, 1) := by decide +kernel
theorem dX10_isTakenBefore_57 : decode cX10_isTakenBefore 57 = .ok (.ireturn, 1) := by decide +kernel
theorem dX10_isTakenBefore_58 : decode cX10_isTakenBefore 58 = .ok (.iinc 2 1, 3) := by decide +kernel
theorem dX10_isTakenBefore_61 : decode cX10_isTakenBefore 61 = .ok (.goto (-59), 3) := by decide +kernel
theorem dX10_isTakenBefore_64 : decode cX10_isTakenBefore 64 = .ok (.iconst 0, 1) := by decide +kernel
theorem dX10_isTakenBefore_65 : decode cX10_isTakenBefore 65 = .ok (.ireturn, 1) := by decide +kernel
abbrev mX10_valuesFit : ks_M := (RX10, cX10_valuesFit, 6, (some .boolean), "valuesFit")
theorem dX10_valuesFit_0 : decode cX10_valuesFit 0 = .ok (.lconst 0, 1) := by decide +kernel
theorem dX10_valuesFit_1 : decode cX10_valuesFit 1 = .ok (.lstore_n 1, 1) := by decide +kernel
theorem dX10_valuesFit_2 : decode cX10_valuesFit 2 = .ok (.iconst 0, 1) := by decide +kernel
theorem dX10_valuesFit_3 : decode cX10_valuesFit 3 = .ok (.istore_n 3, 1) := by decide +kernel
theorem dX10_valuesFit_4 : decode cX10_valuesFit 4 = .ok (.iload_n 3, 1) := by decide +kernel
theorem dX10_valuesFit_5 : decode cX10_valuesFit 5 = .ok (.aload_n 0, 1) := by decide +kernel
theorem dX10_valuesFit_6 : decode cX10_valuesFit 6 = .ok (.getfield 48, 3) := by decide +kernel
theorem dX10_valuesFit_9 : decode cX10_valuesFit 9 = .ok (.if_icmp .ge 39, 3) := by decide +kernel
theorem dX10_valuesFit_12 : decode cX10_valuesFit 12 = .ok (.aload_n 0, 1) := by decide +kernel
theorem dX10_valuesFit_13 : decode cX10_valuesFit 13 = .ok (.iload_n 3, 1) := by decide +kernel
theorem dX10_valuesFit_14 : decode cX10_valuesFit 14 = .ok (.invokevirtual 57, 3) := by decide +kernel
theorem dX10_valuesFit_17 : decode cX10_valuesFit 17 = .ok (.lstore 4, 2) := by decide +kernel
theorem dX10_valuesFit_19 : decode cX10_valuesFit 19 = .ok (.lload 4, 2) := by decide +kernel
theorem dX10_valuesFit_21 : decode cX10_valuesFit 21 = .ok (.lconst 0, 1) := by decide +kernel
theorem dX10_valuesFit_22 : decode cX10_valuesFit 22 = .ok (.lcmp, 1) := by decide +kernel
theorem dX10_valuesFit_23 : decode cX10_valuesFit 23 = .ok (.ifCond .lt 12, 3) := by decide +kernel
theorem dX10_valuesFit_26 : decode cX10_valuesFit 26 = .ok (.lload 4, 2) := by decide +kernel
theorem dX10_valuesFit_28 : decode cX10_valuesFit 28 = .ok (.ldc2_w 110, 3) := by decide +kernel
theorem dX10_valuesFit_31 : decode cX10_valuesFit 31 = .ok (.lcmp, 1) := by decide +kernel
theorem dX10_valuesFit_32 : decode cX10_valuesFit 32 = .ok (.ifCond .le 5, 3) := by decide +kernel
theorem dX10_valuesFit_35 : decode cX10_valuesFit 35 = .ok (.iconst 0, 1) := by decide +kernel
theorem dX10_valuesFit_36 : decode cX10_valuesFit 36 = .ok (.ireturn, 1) := by decide +kernel
theorem dX10_valuesFit_37 : decode cX10_valuesFit 37 = .ok (.lload_n 1, 1) := by decide +kernel
theorem dX10_valuesFit_38 : decode cX10_valuesFit 38 = .ok (.lload 4, 2) := by decide +kernel
theorem dX10_valuesFit_40 : decode cX10_valuesFit 40 = .ok (.ladd, 1) := by decide +kernel
theorem dX10_valuesFit_41 : decode cX10_valuesFit 41 = .ok (.lstore_n 1, 1) := by decide +kernel
theorem dX10_valuesFit_42 : decode cX10_valuesFit 42 = .ok (.iinc 3 1, 3) := by decide +kernel
theorem dX10_valuesFit_45 : decode cX10_valuesFit 45 = .ok (.goto (-41), 3) := by decide +kernel
theorem dX10_valuesFit_48 : decode cX10_valuesFit 48 = .ok (.lload_n 1, 1) := by decide +kernel
theorem dX10_valuesFit_49 : decode cX10_valuesFit 49 = .ok (.ldc2_w 110, 3) := by decide +kernel
theorem dX10_valuesFit_52 : decode cX10_valuesFit 52 = .ok (.lcmp, 1) := by decide +kernel
theorem dX10_valuesFit_53 : decode cX10_valuesFit 53 = .ok (.ifCond .gt 7, 3) := by decide +kernel
theorem dX10_valuesFit_56 : decode cX10_valuesFit 56 = .ok (.iconst 1, 1) := by decide +kernel
theorem dX10_valuesFit_57 : decode cX10_valuesFit 57 = .ok (.goto 4, 3) := by decide +kernel
theorem dX10_valuesFit_60 : decode cX10_valuesFit 60 = .ok (.iconst 0, 1) := by decide +kernel
theorem dX10_valuesFit_61 : decode cX10_valuesFit 61 = .ok (.ireturn, 1) := by decide +kernel
abbrev mX10_readCount : ks_M := (RX10, cX10_readCount, 4, (some .int), "readCount")
theorem dX10_readCount_0 : decode cX10_readCount 0 = .ok (.aload_n 0, 1) := by decide +kernel
theorem dX10_readCount_1 : decode cX10_readCount 1 = .ok (.getfield 38, 3) := by decide +kernel
theorem dX10_readCount_4 : decode cX10_readCount 4 = .ok (.iload_n 1, 1) := by decide +kernel
theorem dX10_readCount_5 : decode cX10_readCount 5 = .ok (.if_icmp .lt 5, 3) := by decide +kernel
theorem dX10_readCount_8 : decode cX10_readCount 8 = .ok (.iconst (-1), 1) := by decide +kernel
theorem dX10_readCount_9 : decode cX10_readCount 9 = .ok (.ireturn, 1) := by decide +kernel
theorem dX10_readCount_10 : decode cX10_readCount 10 = .ok (.aload_n 0, 1) := by decide +kernel
theorem dX10_readCount_11 : decode cX10_readCount 11 = .ok (.getfield 30, 3) := by decide +kernel
theorem dX10_readCount_14 : decode cX10_readCount 14 = .ok (.aload_n 0, 1) := by decide +kernel
theorem dX10_readCount_15 : decode cX10_readCount 15 = .ok (.getfield 38, 3) := by decide +kernel
theorem dX10_readCount_18 : decode cX10_readCount 18 = .ok (.baload, 1) := by decide +kernel
theorem dX10_readCount_19 : decode cX10_readCount 19 = .ok (.sipush 255, 3) := by decide +kernel
theorem dX10_readCount_22 : decode cX10_readCount 22 = .ok (.iand, 1) := by decide +kernel
theorem dX10_readCount_23 : decode cX10_readCount 23 = .ok (.istore_n 3, 1) := by decide +kernel
theorem dX10_readCount_24 : decode cX10_readCount 24 = .ok (.aload_n 0, 1) := by decide +kernel
theorem dX10_readCount_25 : decode cX10_readCount 25 = .ok (.dup, 1) := by decide +kernel
theorem dX10_readCount_26 : decode cX10_readCount 26 = .ok (.getfield 38, 3) := by decide +kernel
theorem dX10_readCount_29 : decode cX10_readCount 29 = .ok (.iconst 1, 1) := by decide +kernel
theorem dX10_readCount_30 : decode cX10_readCount 30 = .ok (.iadd, 1) := by decide +kernel
theorem dX10_readCount_31 : decode cX10_readCount 31 = .ok (.putfield 38, 3) := by decide +kernel
theorem dX10_readCount_34 : decode cX10_readCount 34 = .ok (.iload_n 3, 1) := by decide +kernel
theorem dX10_readCount_35 : decode cX10_readCount 35 = .ok (.sipush 253, 3) := by decide +kernel
theorem dX10_readCount_38 : decode cX10_readCount 38 = .ok (.if_icmp .gt 20, 3) := by decide +kernel
theorem dX10_readCount_41 : decode cX10_readCount 41 = .ok (.iload_n 3, 1) := by decide +kernel
theorem dX10_readCount_42 : decode cX10_readCount 42 = .ok (.sipush 253, 3) := by decide +kernel
theorem dX10_readCount_45 : decode cX10_readCount 45 = .ok (.if_icmp .ne 15, 3) := by decide +kernel
theorem dX10_readCount_48 : decode cX10_readCount 48 = .ok (.iload_n 1, 1) := by decide +kernel
theorem dX10_readCount_49 : decode cX10_readCount 49 = .ok (.aload_n 0, 1) := by decide +kernel
theorem dX10_readCount_50 : decode cX10_readCount 50 = .ok (.getfield 38, 3) := by decide +kernel
theorem dX10_readCount_53 : decode cX10_readCount 53 = .ok (.isub, 1) := by decide +kernel
theorem dX10_readCount_54 : decode cX10_readCount 54 = .ok (.iconst 2, 1) := by decide +kernel
theorem dX10_readCount_55 : decode cX10_readCount 55 = .ok (.if_icmp .ge 5, 3) := by decide +kernel
theorem dX10_readCount_58 : decode cX10_readCount 58 = .ok (.iconst (-1), 1) := by decide +kernel
theorem dX10_readCount_59 : decode cX10_readCount 59 = .ok (.ireturn, 1) := by decide +kernel
theorem dX10_readCount_60 : decode cX10_readCount 60 = .ok (.iload_n 3, 1) := by decide +kernel
theorem dX10_readCount_61 : decode cX10_readCount 61 = .ok (.sipush 253, 3) := by decide +kernel
theorem dX10_readCount_64 : decode cX10_readCount 64 = .ok (.if_icmp .ne 36, 3) := by decide +kernel
theorem dX10_readCount_67 : decode cX10_readCount 67 = .ok (.aload_n 0, 1) := by decide +kernel
theorem dX10_readCount_68 : decode cX10_readCount 68 = .ok (.getfield 30, 3) := by decide +kernel
theorem dX10_readCount_71 : decode cX10_readCount 71 = .ok (.aload_n 0, 1) := by decide +kernel
theorem dX10_readCount_72 : decode cX10_readCount 72 = .ok (.getfield 38, 3) := by decide +kernel
theorem dX10_readCount_75 : decode cX10_readCount 75 = .ok (.iconst 2, 1) := by decide +kernel
theorem dX10_readCount_76 : decode cX10_readCount 76 = .ok (.invokestatic 51, 3) := by decide +kernel
theorem dX10_readCount_79 : decode cX10_readCount 79 = .ok (.l2i, 1) := by decide +kernel
theorem dX10_readCount_80 : decode cX10_readCount 80 = .ok (.istore_n 3, 1) := by decide +kernel
theorem dX10_readCount_81 : decode cX10_readCount 81 = .ok (.aload_n 0, 1) := by decide +kernel
theorem dX10_readCount_82 : decode cX10_readCount 82 = .ok (.dup, 1) := by decide +kernel
theorem dX10_readCount_83 : decode cX10_readCount 83 = .ok (.getfield 38, 3) := by decide +kernel
theorem dX10_readCount_86 : decode cX10_readCount 86 = .ok (.iconst 2, 1) := by decide +kernel
theorem dX10_readCount_87 : decode cX10_readCount 87 = .ok (.iadd, 1) := by decide +kernel
theorem dX10_readCount_88 : decode cX10_readCount 88 = .ok (.putfield 38, 3) := by decide +kernel
theorem dX10_readCount_91 : decode cX10_readCount 91 = .ok (.iload_n 3, 1) := by decide +kernel
theorem dX10_readCount_92 : decode cX10_readCount 92 = .ok (.sipush 253, 3) := by decide +kernel
theorem dX10_readCount_95 : decode cX10_readCount 95 = .ok (.if_icmp .ge 5, 3) := by decide +kernel
theorem dX10_readCount_98 : decode cX10_readCount 98 = .ok (.iconst (-1), 1) := by decide +kernel
theorem dX10_readCount_99 : decode cX10_readCount 99 = .ok (.ireturn, 1) := by decide +kernel
theorem dX10_readCount_100 : decode cX10_readCount 100 = .ok (.iload_n 3, 1) := by decide +kernel
theorem dX10_readCount_101 : decode cX10_readCount 101 = .ok (.iload_n 2, 1) := by decide +kernel
theorem dX10_readCount_102 : decode cX10_readCount 102 = .ok (.if_icmp .le 7, 3) := by decide +kernel
theorem dX10_readCount_105 : decode cX10_readCount 105 = .ok (.iconst (-1), 1) := by decide +kernel
theorem dX10_readCount_106 : decode cX10_readCount 106 = .ok (.goto 4, 3) := by decide +kernel
theorem dX10_readCount_109 : decode cX10_readCount 109 = .ok (.iload_n 3, 1) := by decide +kernel
theorem dX10_readCount_110 : decode cX10_readCount 110 = .ok (.ireturn, 1) := by decide +kernel
theorem kx_23 : (Jvm.Cond.initialized "CoinJudge$TxView") ∈ lw_tbl := List.mem_append_right _ (List.mem_of_getElem? (i := 23) (by decide +kernel))
theorem kx_24 : (Jvm.Cond.initialized "CoinJudge$Machine") ∈ lw_tbl := List.mem_append_right _ (List.mem_of_getElem? (i := 24) (by decide +kernel))
theorem kx_25 : (Jvm.Cond.initialized "CoinJudge$Stack") ∈ lw_tbl := List.mem_append_right _ (List.mem_of_getElem? (i := 25) (by decide +kernel))
theorem kx_28 : (Jvm.Cond.initialized "CoinJudge$DraftTx") ∈ lw_tbl := List.mem_append_right _ (List.mem_of_getElem? (i := 28) (by decide +kernel))
theorem kx_52 : (Jvm.Cond.fieldLink "CoinJudge$Block" (35 : Nat) "CoinJudge$Buffer" "bytes" "[B") ∈ lw_tbl := List.mem_append_right _ (List.mem_of_getElem? (i := 52) (by decide +kernel))
theorem kx_55 : (Jvm.Cond.fieldLink "CoinJudge$DraftTx" (67 : Nat) "CoinJudge$Buffer" "bytes" "[B") ∈ lw_tbl := List.mem_append_right _ (List.mem_of_getElem? (i := 55) (by decide +kernel))
theorem kx_57 : (Jvm.Cond.fieldLink "CoinJudge$TxView" (103 : Nat) "CoinJudge$Buffer" "bytes" "[B") ∈ lw_tbl := List.mem_append_right _ (List.mem_of_getElem? (i := 57) (by decide +kernel))
theorem kx_58 : (Jvm.Cond.fieldLink "CoinJudge$Block" (29 : Nat) "CoinJudge$Buffer" "length" "I") ∈ lw_tbl := List.mem_append_right _ (List.mem_of_getElem? (i := 58) (by decide +kernel))
theorem kx_62 : (Jvm.Cond.fieldLink "CoinJudge$DraftTx" (58 : Nat) "CoinJudge$Buffer" "length" "I") ∈ lw_tbl := List.mem_append_right _ (List.mem_of_getElem? (i := 62) (by decide +kernel))
theorem kx_64 : (Jvm.Cond.fieldLink "CoinJudge$TxView" (100 : Nat) "CoinJudge$Buffer" "length" "I") ∈ lw_tbl := List.mem_append_right _ (List.mem_of_getElem? (i := 64) (by decide +kernel))
theorem kx_142 : (Jvm.Cond.arrayClass Jvm.ClassFile.FieldType.long) ∈ lw_tbl := List.mem_append_right _ (List.mem_of_getElem? (i := 142) (by decide +kernel))
theorem kx_552 : (Jvm.Cond.code ({ cls := "CoinJudge$TxView", name := "<init>", desc := "()V" } : Jvm.MethodName) prog_12_method_1_code (1 : Nat) (Option.none : Option Jvm.ClassFile.FieldType)) ∈ lw_tbl := List.mem_append_right _ (List.mem_of_getElem? (i := 552) (by decide +kernel))
theorem kx_553 : (Jvm.Cond.methodLink "CoinJudge$TxView" (3 : Nat) ({ cls := "java/lang/Object", name := "<init>", desc := "()V" } : Jvm.MethodName)) ∈ lw_tbl := List.mem_append_right _ (List.mem_of_getElem? (i := 553) (by decide +kernel))
theorem kx_554 : (Jvm.Cond.fieldLink "CoinJudge$TxView" (30 : Nat) "CoinJudge$TxView" "bytes" "[B") ∈ lw_tbl := List.mem_append_right _ (List.mem_of_getElem? (i := 554) (by decide +kernel))
theorem kx_557 : (Jvm.Cond.fieldLink "CoinJudge$TxView" (45 : Nat) "CoinJudge$TxView" "inputs" "I") ∈ lw_tbl := List.mem_append_right _ (List.mem_of_getElem? (i := 557) (by decide +kernel))
theorem kx_559 : (Jvm.Cond.fieldLink "CoinJudge$TxView" (48 : Nat) "CoinJudge$TxView" "outputs" "I") ∈ lw_tbl := List.mem_append_right _ (List.mem_of_getElem? (i := 559) (by decide +kernel))
theorem kx_561 : (Jvm.Cond.fieldLink "CoinJudge$TxView" (9 : Nat) "CoinJudge$TxView" "inputAt" "[I") ∈ lw_tbl := List.mem_append_right _ (List.mem_of_getElem? (i := 561) (by decide +kernel))
theorem kx_563 : (Jvm.Cond.fieldLink "CoinJudge$TxView" (15 : Nat) "CoinJudge$TxView" "inputScript" "[I") ∈ lw_tbl := List.mem_append_right _ (List.mem_of_getElem? (i := 563) (by decide +kernel))
theorem kx_565 : (Jvm.Cond.fieldLink "CoinJudge$TxView" (18 : Nat) "CoinJudge$TxView" "inputSize" "[I") ∈ lw_tbl := List.mem_append_right _ (List.mem_of_getElem? (i := 565) (by decide +kernel))
theorem kx_567 : (Jvm.Cond.fieldLink "CoinJudge$TxView" (21 : Nat) "CoinJudge$TxView" "outputAt" "[I") ∈ lw_tbl := List.mem_append_right _ (List.mem_of_getElem? (i := 567) (by decide +kernel))
theorem kx_569 : (Jvm.Cond.fieldLink "CoinJudge$TxView" (24 : Nat) "CoinJudge$TxView" "outputScript" "[I") ∈ lw_tbl := List.mem_append_right _ (List.mem_of_getElem? (i := 569) (by decide +kernel))
theorem kx_570 : (Jvm.Cond.fieldLink "CoinJudge$TxView" (27 : Nat) "CoinJudge$TxView" "outputSize" "[I") ∈ lw_tbl := List.mem_append_right _ (List.mem_of_getElem? (i := 570) (by decide +kernel))
theorem kx_571 : (Jvm.Cond.fieldLink "CoinJudge$TxView" (34 : Nat) "CoinJudge$TxView" "start" "I") ∈ lw_tbl := List.mem_append_right _ (List.mem_of_getElem? (i := 571) (by decide +kernel))
theorem kx_572 : (Jvm.Cond.fieldLink "CoinJudge$TxView" (38 : Nat) "CoinJudge$TxView" "at" "I") ∈ lw_tbl := List.mem_append_right _ (List.mem_of_getElem? (i := 572) (by decide +kernel))
theorem kx_606 : (Jvm.Cond.code ({ cls := "CoinJudge$Stack", name := "<init>", desc := "()V" } : Jvm.MethodName) prog_10_method_1_code (1 : Nat) (Option.none : Option Jvm.ClassFile.FieldType)) ∈ lw_tbl := List.mem_append_right _ (List.mem_of_getElem? (i := 606) (by decide +kernel))
theorem kx_607 : (Jvm.Cond.methodLink "CoinJudge$Stack" (5 : Nat) ({ cls := "java/lang/Object", name := "<init>", desc := "()V" } : Jvm.MethodName)) ∈ lw_tbl := List.mem_append_right _ (List.mem_of_getElem? (i := 607) (by decide +kernel))
theorem kx_608 : (Jvm.Cond.fieldLink "CoinJudge$Stack" (11 : Nat) "CoinJudge$Stack" "arena" "[B") ∈ lw_tbl := List.mem_append_right _ (List.mem_of_getElem? (i := 608) (by decide +kernel))
theorem kx_610 : (Jvm.Cond.fieldLink "CoinJudge$Stack" (15 : Nat) "CoinJudge$Stack" "at" "[I") ∈ lw_tbl := List.mem_append_right _ (List.mem_of_getElem? (i := 610) (by decide +kernel))
theorem kx_612 : (Jvm.Cond.fieldLink "CoinJudge$Stack" (19 : Nat) "CoinJudge$Stack" "count" "[I") ∈ lw_tbl := List.mem_append_right _ (List.mem_of_getElem? (i := 612) (by decide +kernel))
theorem kx_614 : (Jvm.Cond.fieldLink "CoinJudge$Stack" (31 : Nat) "CoinJudge$Stack" "size" "I") ∈ lw_tbl := List.mem_append_right _ (List.mem_of_getElem? (i := 614) (by decide +kernel))
theorem kx_616 : (Jvm.Cond.fieldLink "CoinJudge$Stack" (38 : Nat) "CoinJudge$Stack" "used" "I") ∈ lw_tbl := List.mem_append_right _ (List.mem_of_getElem? (i := 616) (by decide +kernel))
theorem kx_617 : (Jvm.Cond.fieldLink "CoinJudge$Stack" (35 : Nat) "CoinJudge$Stack" "otherSize" "I") ∈ lw_tbl := List.mem_append_right _ (List.mem_of_getElem? (i := 617) (by decide +kernel))
theorem kx_618 : (Jvm.Cond.fieldLink "CoinJudge$Stack" (22 : Nat) "CoinJudge$Stack" "otherAt" "[I") ∈ lw_tbl := List.mem_append_right _ (List.mem_of_getElem? (i := 618) (by decide +kernel))
theorem kx_619 : (Jvm.Cond.fieldLink "CoinJudge$Stack" (25 : Nat) "CoinJudge$Stack" "otherCount" "[I") ∈ lw_tbl := List.mem_append_right _ (List.mem_of_getElem? (i := 619) (by decide +kernel))
theorem kx_620 : (Jvm.Cond.fieldLink "CoinJudge$Stack" (28 : Nat) "CoinJudge$Stack" "digits" "[B") ∈ lw_tbl := List.mem_append_right _ (List.mem_of_getElem? (i := 620) (by decide +kernel))
theorem kx_782 : (Jvm.Cond.code ({ cls := "CoinJudge$DraftTx", name := "<init>", desc := "()V" } : Jvm.MethodName) prog_6_method_1_code (1 : Nat) (Option.none : Option Jvm.ClassFile.FieldType)) ∈ lw_tbl := List.mem_append_right _ (List.mem_of_getElem? (i := 782) (by decide +kernel))
theorem kx_783 : (Jvm.Cond.methodLink "CoinJudge$DraftTx" (3 : Nat) ({ cls := "java/lang/Object", name := "<init>", desc := "()V" } : Jvm.MethodName)) ∈ lw_tbl := List.mem_append_right _ (List.mem_of_getElem? (i := 783) (by decide +kernel))
theorem kx_786 : (Jvm.Cond.fieldLink "CoinJudge$DraftTx" (41 : Nat) "CoinJudge$DraftTx" "inputs" "I") ∈ lw_tbl := List.mem_append_right _ (List.mem_of_getElem? (i := 786) (by decide +kernel))
theorem kx_788 : (Jvm.Cond.fieldLink "CoinJudge$DraftTx" (45 : Nat) "CoinJudge$DraftTx" "outputs" "I") ∈ lw_tbl := List.mem_append_right _ (List.mem_of_getElem? (i := 788) (by decide +kernel))
theorem kx_790 : (Jvm.Cond.fieldLink "CoinJudge$DraftTx" (9 : Nat) "CoinJudge$DraftTx" "size" "[I") ∈ lw_tbl := List.mem_append_right _ (List.mem_of_getElem? (i := 790) (by decide +kernel))
theorem kx_792 : (Jvm.Cond.fieldLink "CoinJudge$DraftTx" (34 : Nat) "CoinJudge$DraftTx" "version" "J") ∈ lw_tbl := List.mem_append_right _ (List.mem_of_getElem? (i := 792) (by decide +kernel))
theorem kx_793 : (Jvm.Cond.fieldLink "CoinJudge$DraftTx" (38 : Nat) "CoinJudge$DraftTx" "lock" "J") ∈ lw_tbl := List.mem_append_right _ (List.mem_of_getElem? (i := 793) (by decide +kernel))
theorem kx_794 : (Jvm.Cond.fieldLink "CoinJudge$DraftTx" (15 : Nat) "CoinJudge$DraftTx" "ids" "[B") ∈ lw_tbl := List.mem_append_right _ (List.mem_of_getElem? (i := 794) (by decide +kernel))
theorem kx_795 : (Jvm.Cond.fieldLink "CoinJudge$DraftTx" (19 : Nat) "CoinJudge$DraftTx" "index" "[I") ∈ lw_tbl := List.mem_append_right _ (List.mem_of_getElem? (i := 795) (by decide +kernel))
theorem kx_796 : (Jvm.Cond.fieldLink "CoinJudge$DraftTx" (22 : Nat) "CoinJudge$DraftTx" "sequence" "[J") ∈ lw_tbl := List.mem_append_right _ (List.mem_of_getElem? (i := 796) (by decide +kernel))
theorem kx_797 : (Jvm.Cond.fieldLink "CoinJudge$DraftTx" (26 : Nat) "CoinJudge$DraftTx" "value" "[J") ∈ lw_tbl := List.mem_append_right _ (List.mem_of_getElem? (i := 797) (by decide +kernel))
theorem kx_798 : (Jvm.Cond.fieldLink "CoinJudge$DraftTx" (31 : Nat) "CoinJudge$DraftTx" "script" "[[B") ∈ lw_tbl := List.mem_append_right _ (List.mem_of_getElem? (i := 798) (by decide +kernel))
theorem kx_827 : (Jvm.Cond.code ({ cls := "CoinJudge$DraftTx", name := "begin", desc := "(JJ)V" } : Jvm.MethodName) prog_6_method_3_code (5 : Nat) (Option.none : Option Jvm.ClassFile.FieldType)) ∈ lw_tbl := List.mem_append_right _ (List.mem_of_getElem? (i := 827) (by decide +kernel))
theorem kx_836 : (Jvm.Cond.code ({ cls := "CoinJudge$DraftTx", name := "addInput", desc := "([BIIJLCoinJudge$Buffer;)V" } : Jvm.MethodName) prog_6_method_4_code (7 : Nat) (Option.none : Option Jvm.ClassFile.FieldType)) ∈ lw_tbl := List.mem_append_right _ (List.mem_of_getElem? (i := 836) (by decide +kernel))
theorem kx_837 : (Jvm.Cond.methodLink "CoinJudge$DraftTx" (48 : Nat) ({ cls := "java/lang/System", name := "arraycopy", desc := "(Ljava/lang/Object;ILjava/lang/Object;II)V" } : Jvm.MethodName)) ∈ lw_tbl := List.mem_append_right _ (List.mem_of_getElem? (i := 837) (by decide +kernel))
theorem kx_838 : (Jvm.Cond.methodLink "CoinJudge$DraftTx" (54 : Nat) ({ cls := "CoinJudge$DraftTx", name := "takeScript", desc := "(ILCoinJudge$Buffer;)V" } : Jvm.MethodName)) ∈ lw_tbl := List.mem_append_right _ (List.mem_of_getElem? (i := 838) (by decide +kernel))
theorem kx_840 : (Jvm.Cond.instanceMethod ({ cls := "CoinJudge$DraftTx", name := "takeScript", desc := "(ILCoinJudge$Buffer;)V" } : Jvm.MethodName)) ∈ lw_tbl := List.mem_append_right _ (List.mem_of_getElem? (i := 840) (by decide +kernel))
theorem kx_841 : (Jvm.Cond.code ({ cls := "CoinJudge$DraftTx", name := "takeScript", desc := "(ILCoinJudge$Buffer;)V" } : Jvm.MethodName) prog_6_method_8_code (3 : Nat) (Option.none : Option Jvm.ClassFile.FieldType)) ∈ lw_tbl := List.mem_append_right _ (List.mem_of_getElem? (i := 841) (by decide +kernel))
theorem kx_843 : (Jvm.Cond.instanceMethod ({ cls := "CoinJudge$Buffer", name := "clear", desc := "()V" } : Jvm.MethodName)) ∈ lw_tbl := List.mem_append_right _ (List.mem_of_getElem? (i := 843) (by decide +kernel))
theorem kx_844 : (Jvm.Cond.selects "CoinJudge$Buffer" ({ cls := "CoinJudge$Buffer", name := "clear", desc := "()V" } : Jvm.MethodName) ({ cls := "CoinJudge$Buffer", name := "clear", desc := "()V" } : Jvm.MethodName)) ∈ lw_tbl := List.mem_append_right _ (List.mem_of_getElem? (i := 844) (by decide +kernel))
theorem kx_851 : (Jvm.Cond.code ({ cls := "CoinJudge$DraftTx", name := "addOutput", desc := "(JLCoinJudge$Buffer;)V" } : Jvm.MethodName) prog_6_method_5_code (4 : Nat) (Option.none : Option Jvm.ClassFile.FieldType)) ∈ lw_tbl := List.mem_append_right _ (List.mem_of_getElem? (i := 851) (by decide +kernel))
theorem kx_865 : (Jvm.Cond.code ({ cls := "CoinJudge$DraftTx", name := "write", desc := "(LCoinJudge$Buffer;)V" } : Jvm.MethodName) prog_6_method_7_code (4 : Nat) (Option.none : Option Jvm.ClassFile.FieldType)) ∈ lw_tbl := List.mem_append_right _ (List.mem_of_getElem? (i := 865) (by decide +kernel))
theorem kx_866 : (Jvm.Cond.methodLink "CoinJudge$DraftTx" (70 : Nat) ({ cls := "CoinJudge$Buffer", name := "addNumber", desc := "(JI)V" } : Jvm.MethodName)) ∈ lw_tbl := List.mem_append_right _ (List.mem_of_getElem? (i := 866) (by decide +kernel))
theorem kx_867 : (Jvm.Cond.methodLink "CoinJudge$DraftTx" (74 : Nat) ({ cls := "CoinJudge$Buffer", name := "addCount", desc := "(I)V" } : Jvm.MethodName)) ∈ lw_tbl := List.mem_append_right _ (List.mem_of_getElem? (i := 867) (by decide +kernel))
theorem kx_868 : (Jvm.Cond.instanceMethod ({ cls := "CoinJudge$Buffer", name := "addCount", desc := "(I)V" } : Jvm.MethodName)) ∈ lw_tbl := List.mem_append_right _ (List.mem_of_getElem? (i := 868) (by decide +kernel))
theorem kx_869 : (Jvm.Cond.selects "CoinJudge$Buffer" ({ cls := "CoinJudge$Buffer", name := "addCount", desc := "(I)V" } : Jvm.MethodName) ({ cls := "CoinJudge$Buffer", name := "addCount", desc := "(I)V" } : Jvm.MethodName)) ∈ lw_tbl := List.mem_append_right _ (List.mem_of_getElem? (i := 869) (by decide +kernel))
theorem kx_871 : (Jvm.Cond.methodLink "CoinJudge$DraftTx" (78 : Nat) ({ cls := "CoinJudge$Buffer", name := "addBytes", desc := "([BII)V" } : Jvm.MethodName)) ∈ lw_tbl := List.mem_append_right _ (List.mem_of_getElem? (i := 871) (by decide +kernel))
theorem kx_872 : (Jvm.Cond.instanceMethod ({ cls := "CoinJudge$Buffer", name := "addBytes", desc := "([BII)V" } : Jvm.MethodName)) ∈ lw_tbl := List.mem_append_right _ (List.mem_of_getElem? (i := 872) (by decide +kernel))
theorem kx_873 : (Jvm.Cond.selects "CoinJudge$Buffer" ({ cls := "CoinJudge$Buffer", name := "addBytes", desc := "([BII)V" } : Jvm.MethodName) ({ cls := "CoinJudge$Buffer", name := "addBytes", desc := "([BII)V" } : Jvm.MethodName)) ∈ lw_tbl := List.mem_append_right _ (List.mem_of_getElem? (i := 873) (by decide +kernel))
theorem kx_933 : (Jvm.Cond.code ({ cls := "CoinJudge$Block", name := "<init>", desc := "()V" } : Jvm.MethodName) prog_2_method_1_code (1 : Nat) (Option.none : Option Jvm.ClassFile.FieldType)) ∈ lw_tbl := List.mem_append_right _ (List.mem_of_getElem? (i := 933) (by decide +kernel))
theorem kx_934 : (Jvm.Cond.methodLink "CoinJudge$Block" (3 : Nat) ({ cls := "java/lang/Object", name := "<init>", desc := "()V" } : Jvm.MethodName)) ∈ lw_tbl := List.mem_append_right _ (List.mem_of_getElem? (i := 934) (by decide +kernel))
theorem kx_935 : (Jvm.Cond.fieldLink "CoinJudge$Block" (9 : Nat) "CoinJudge$Block" "bytes" "[B") ∈ lw_tbl := List.mem_append_right _ (List.mem_of_getElem? (i := 935) (by decide +kernel))
theorem kx_937 : (Jvm.Cond.fieldLink "CoinJudge$Block" (15 : Nat) "CoinJudge$Block" "starts" "[I") ∈ lw_tbl := List.mem_append_right _ (List.mem_of_getElem? (i := 937) (by decide +kernel))
theorem kx_939 : (Jvm.Cond.fieldLink "CoinJudge$Block" (19 : Nat) "CoinJudge$Block" "ids" "[B") ∈ lw_tbl := List.mem_append_right _ (List.mem_of_getElem? (i := 939) (by decide +kernel))
theorem kx_942 : (Jvm.Cond.fieldLink "CoinJudge$Block" (22 : Nat) "CoinJudge$Block" "hash" "[B") ∈ lw_tbl := List.mem_append_right _ (List.mem_of_getElem? (i := 942) (by decide +kernel))
theorem kx_945 : (Jvm.Cond.fieldLink "CoinJudge$Block" (34 : Nat) "CoinJudge$Block" "length" "I") ∈ lw_tbl := List.mem_append_right _ (List.mem_of_getElem? (i := 945) (by decide +kernel))
theorem kx_948 : (Jvm.Cond.fieldLink "CoinJudge$Block" (42 : Nat) "CoinJudge$Block" "count" "I") ∈ lw_tbl := List.mem_append_right _ (List.mem_of_getElem? (i := 948) (by decide +kernel))
theorem kx_951 : (Jvm.Cond.fieldLink "CoinJudge$Block" (25 : Nat) "CoinJudge$Block" "parent" "I") ∈ lw_tbl := List.mem_append_right _ (List.mem_of_getElem? (i := 951) (by decide +kernel))
theorem kx_987 : (Jvm.Cond.code ({ cls := "CoinJudge$Block", name := "read", desc := "(LCoinJudge$Buffer;LCoinJudge$TxView;LCoinJudge$Hasher;)Z" } : Jvm.MethodName) prog_2_method_2_code (6 : Nat) (Option.some Jvm.ClassFile.FieldType.boolean)) ∈ lw_tbl := List.mem_append_right _ (List.mem_of_getElem? (i := 987) (by decide +kernel))
theorem kx_988 : (Jvm.Cond.methodLink "CoinJudge$Block" (36 : Nat) ({ cls := "java/lang/System", name := "arraycopy", desc := "(Ljava/lang/Object;ILjava/lang/Object;II)V" } : Jvm.MethodName)) ∈ lw_tbl := List.mem_append_right _ (List.mem_of_getElem? (i := 988) (by decide +kernel))
theorem kx_989 : (Jvm.Cond.methodLink "CoinJudge$Block" (45 : Nat) ({ cls := "CoinJudge$TxView", name := "read", desc := "([BII)I" } : Jvm.MethodName)) ∈ lw_tbl := List.mem_append_right _ (List.mem_of_getElem? (i := 989) (by decide +kernel))
theorem kx_990 : (Jvm.Cond.instanceMethod ({ cls := "CoinJudge$TxView", name := "read", desc := "([BII)I" } : Jvm.MethodName)) ∈ lw_tbl := List.mem_append_right _ (List.mem_of_getElem? (i := 990) (by decide +kernel))
theorem kx_991 : (Jvm.Cond.selects "CoinJudge$TxView" ({ cls := "CoinJudge$TxView", name := "read", desc := "([BII)I" } : Jvm.MethodName) ({ cls := "CoinJudge$TxView", name := "read", desc := "([BII)I" } : Jvm.MethodName)) ∈ lw_tbl := List.mem_append_right _ (List.mem_of_getElem? (i := 991) (by decide +kernel))
theorem kx_992 : (Jvm.Cond.code ({ cls := "CoinJudge$TxView", name := "read", desc := "([BII)I" } : Jvm.MethodName) prog_12_method_2_code (5 : Nat) (Option.some Jvm.ClassFile.FieldType.int)) ∈ lw_tbl := List.mem_append_right _ (List.mem_of_getElem? (i := 992) (by decide +kernel))
theorem kx_993 : (Jvm.Cond.methodLink "CoinJudge$TxView" (41 : Nat) ({ cls := "CoinJudge$TxView", name := "readCount", desc := "(II)I" } : Jvm.MethodName)) ∈ lw_tbl := List.mem_append_right _ (List.mem_of_getElem? (i := 993) (by decide +kernel))
theorem kx_995 : (Jvm.Cond.instanceMethod ({ cls := "CoinJudge$TxView", name := "readCount", desc := "(II)I" } : Jvm.MethodName)) ∈ lw_tbl := List.mem_append_right _ (List.mem_of_getElem? (i := 995) (by decide +kernel))
theorem kx_996 : (Jvm.Cond.code ({ cls := "CoinJudge$TxView", name := "readCount", desc := "(II)I" } : Jvm.MethodName) prog_12_method_15_code (4 : Nat) (Option.some Jvm.ClassFile.FieldType.int)) ∈ lw_tbl := List.mem_append_right _ (List.mem_of_getElem? (i := 996) (by decide +kernel))
theorem kx_997 : (Jvm.Cond.methodLink "CoinJudge$TxView" (51 : Nat) ({ cls := "CoinJudge$Buffer", name := "number", desc := "([BII)J" } : Jvm.MethodName)) ∈ lw_tbl := List.mem_append_right _ (List.mem_of_getElem? (i := 997) (by decide +kernel))
theorem kx_1000 : (Jvm.Cond.methodLink "CoinJudge$Block" (51 : Nat) ({ cls := "CoinJudge$Hasher", name := "twice", desc := "([BII[BI)V" } : Jvm.MethodName)) ∈ lw_tbl := List.mem_append_right _ (List.mem_of_getElem? (i := 1000) (by decide +kernel))
theorem kx_1004 : (Jvm.Cond.code ({ cls := "CoinJudge$Block", name := "nameTransactions", desc := "(LCoinJudge$Hasher;)V" } : Jvm.MethodName) prog_2_method_3_code (3 : Nat) (Option.none : Option Jvm.ClassFile.FieldType)) ∈ lw_tbl := List.mem_append_right _ (List.mem_of_getElem? (i := 1004) (by decide +kernel))
theorem kx_1008 : (Jvm.Cond.code ({ cls := "CoinJudge$Block", name := "bits", desc := "()I" } : Jvm.MethodName) prog_2_method_5_code (1 : Nat) (Option.some Jvm.ClassFile.FieldType.int)) ∈ lw_tbl := List.mem_append_right _ (List.mem_of_getElem? (i := 1008) (by decide +kernel))
theorem kx_1009 : (Jvm.Cond.methodLink "CoinJudge$Block" (57 : Nat) ({ cls := "CoinJudge$Buffer", name := "number", desc := "([BII)J" } : Jvm.MethodName)) ∈ lw_tbl := List.mem_append_right _ (List.mem_of_getElem? (i := 1009) (by decide +kernel))
theorem kx_1311 : (Jvm.Cond.static ({ cls := "CoinJudge$DraftTx", name := "pushSize", desc := "(I)I" } : Jvm.MethodName)) ∈ lw_tbl := List.mem_append_right _ (List.mem_of_getElem? (i := 1311) (by decide +kernel))
theorem kx_1312 : (Jvm.Cond.code ({ cls := "CoinJudge$DraftTx", name := "pushSize", desc := "(I)I" } : Jvm.MethodName) prog_6_method_2_code (1 : Nat) (Option.some Jvm.ClassFile.FieldType.int)) ∈ lw_tbl := List.mem_append_right _ (List.mem_of_getElem? (i := 1312) (by decide +kernel))
theorem kx_1316 : (Jvm.Cond.code ({ cls := "CoinJudge$DraftTx", name := "addPush", desc := "(ILCoinJudge$Buffer;)V" } : Jvm.MethodName) prog_6_method_6_code (6 : Nat) (Option.none : Option Jvm.ClassFile.FieldType)) ∈ lw_tbl := List.mem_append_right _ (List.mem_of_getElem? (i := 1316) (by decide +kernel))
theorem kx_1317 : (Jvm.Cond.methodLink "CoinJudge$DraftTx" (63 : Nat) ({ cls := "CoinJudge$DraftTx", name := "pushSize", desc := "(I)I" } : Jvm.MethodName)) ∈ lw_tbl := List.mem_append_right _ (List.mem_of_getElem? (i := 1317) (by decide +kernel))
theorem kx_1350 : (Jvm.Cond.code ({ cls := "CoinJudge$TxView", name := "writeSigned", desc := "(LCoinJudge$Buffer;IILCoinJudge$Buffer;)Z" } : Jvm.MethodName) prog_12_method_11_code (9 : Nat) (Option.some Jvm.ClassFile.FieldType.boolean)) ∈ lw_tbl := List.mem_append_right _ (List.mem_of_getElem? (i := 1350) (by decide +kernel))
theorem kx_1351 : (Jvm.Cond.methodLink "CoinJudge$TxView" (89 : Nat) ({ cls := "CoinJudge$Buffer", name := "clear", desc := "()V" } : Jvm.MethodName)) ∈ lw_tbl := List.mem_append_right _ (List.mem_of_getElem? (i := 1351) (by decide +kernel))
theorem kx_1352 : (Jvm.Cond.methodLink "CoinJudge$TxView" (92 : Nat) ({ cls := "CoinJudge$Buffer", name := "addBytes", desc := "([BII)V" } : Jvm.MethodName)) ∈ lw_tbl := List.mem_append_right _ (List.mem_of_getElem? (i := 1352) (by decide +kernel))
theorem kx_1353 : (Jvm.Cond.methodLink "CoinJudge$TxView" (96 : Nat) ({ cls := "CoinJudge$Buffer", name := "addCount", desc := "(I)V" } : Jvm.MethodName)) ∈ lw_tbl := List.mem_append_right _ (List.mem_of_getElem? (i := 1353) (by decide +kernel))
theorem kx_1354 : (Jvm.Cond.methodLink "CoinJudge$TxView" (104 : Nat) ({ cls := "CoinJudge$Buffer", name := "addNumber", desc := "(JI)V" } : Jvm.MethodName)) ∈ lw_tbl := List.mem_append_right _ (List.mem_of_getElem? (i := 1354) (by decide +kernel))
theorem kx_1355 : (Jvm.Cond.constantLong "CoinJudge$TxView" (108 : Nat) (-1 : Int64)) ∈ lw_tbl := List.mem_append_right _ (List.mem_of_getElem? (i := 1355) (by decide +kernel))
theorem kx_1399 : (Jvm.Cond.code ({ cls := "CoinJudge$Block", name := "time", desc := "()J" } : Jvm.MethodName) prog_2_method_4_code (1 : Nat) (Option.some Jvm.ClassFile.FieldType.long)) ∈ lw_tbl := List.mem_append_right _ (List.mem_of_getElem? (i := 1399) (by decide +kernel))
theorem kx_1461 : (Jvm.Cond.code ({ cls := "CoinJudge$TxView", name := "refusal", desc := "(Z)I" } : Jvm.MethodName) prog_12_method_7_code (3 : Nat) (Option.some Jvm.ClassFile.FieldType.int)) ∈ lw_tbl := List.mem_append_right _ (List.mem_of_getElem? (i := 1461) (by decide +kernel))
theorem kx_1462 : (Jvm.Cond.methodLink "CoinJudge$TxView" (61 : Nat) ({ cls := "CoinJudge$TxView", name := "isNone", desc := "(I)Z" } : Jvm.MethodName)) ∈ lw_tbl := List.mem_append_right _ (List.mem_of_getElem? (i := 1462) (by decide +kernel))
theorem kx_1464 : (Jvm.Cond.instanceMethod ({ cls := "CoinJudge$TxView", name := "isNone", desc := "(I)Z" } : Jvm.MethodName)) ∈ lw_tbl := List.mem_append_right _ (List.mem_of_getElem? (i := 1464) (by decide +kernel))
theorem kx_1465 : (Jvm.Cond.code ({ cls := "CoinJudge$TxView", name := "isNone", desc := "(I)Z" } : Jvm.MethodName) prog_12_method_12_code (4 : Nat) (Option.some Jvm.ClassFile.FieldType.boolean)) ∈ lw_tbl := List.mem_append_right _ (List.mem_of_getElem? (i := 1465) (by decide +kernel))
theorem kx_1466 : (Jvm.Cond.constantLong "CoinJudge$TxView" (81 : Nat) (4294967295 : Int64)) ∈ lw_tbl := List.mem_append_right _ (List.mem_of_getElem? (i := 1466) (by decide +kernel))
theorem kx_1467 : (Jvm.Cond.methodLink "CoinJudge$TxView" (65 : Nat) ({ cls := "CoinJudge$TxView", name := "valuesFit", desc := "()Z" } : Jvm.MethodName)) ∈ lw_tbl := List.mem_append_right _ (List.mem_of_getElem? (i := 1467) (by decide +kernel))
theorem kx_1469 : (Jvm.Cond.instanceMethod ({ cls := "CoinJudge$TxView", name := "valuesFit", desc := "()Z" } : Jvm.MethodName)) ∈ lw_tbl := List.mem_append_right _ (List.mem_of_getElem? (i := 1469) (by decide +kernel))
theorem kx_1470 : (Jvm.Cond.code ({ cls := "CoinJudge$TxView", name := "valuesFit", desc := "()Z" } : Jvm.MethodName) prog_12_method_14_code (6 : Nat) (Option.some Jvm.ClassFile.FieldType.boolean)) ∈ lw_tbl := List.mem_append_right _ (List.mem_of_getElem? (i := 1470) (by decide +kernel))
theorem kx_1471 : (Jvm.Cond.methodLink "CoinJudge$TxView" (57 : Nat) ({ cls := "CoinJudge$TxView", name := "value", desc := "(I)J" } : Jvm.MethodName)) ∈ lw_tbl := List.mem_append_right _ (List.mem_of_getElem? (i := 1471) (by decide +kernel))
theorem kx_1472 : (Jvm.Cond.instanceMethod ({ cls := "CoinJudge$TxView", name := "value", desc := "(I)J" } : Jvm.MethodName)) ∈ lw_tbl := List.mem_append_right _ (List.mem_of_getElem? (i := 1472) (by decide +kernel))
theorem kx_1473 : (Jvm.Cond.selects "CoinJudge$TxView" ({ cls := "CoinJudge$TxView", name := "value", desc := "(I)J" } : Jvm.MethodName) ({ cls := "CoinJudge$TxView", name := "value", desc := "(I)J" } : Jvm.MethodName)) ∈ lw_tbl := List.mem_append_right _ (List.mem_of_getElem? (i := 1473) (by decide +kernel))
theorem kx_1474 : (Jvm.Cond.code ({ cls := "CoinJudge$TxView", name := "value", desc := "(I)J" } : Jvm.MethodName) prog_12_method_5_code (2 : Nat) (Option.some Jvm.ClassFile.FieldType.long)) ∈ lw_tbl := List.mem_append_right _ (List.mem_of_getElem? (i := 1474) (by decide +kernel))
theorem kx_1475 : (Jvm.Cond.constantLong "CoinJudge$TxView" (110 : Nat) (2100000000000000 : Int64)) ∈ lw_tbl := List.mem_append_right _ (List.mem_of_getElem? (i := 1475) (by decide +kernel))
theorem kx_1476 : (Jvm.Cond.methodLink "CoinJudge$TxView" (69 : Nat) ({ cls := "CoinJudge$TxView", name := "isTakenBefore", desc := "(I)Z" } : Jvm.MethodName)) ∈ lw_tbl := List.mem_append_right _ (List.mem_of_getElem? (i := 1476) (by decide +kernel))
theorem kx_1478 : (Jvm.Cond.instanceMethod ({ cls := "CoinJudge$TxView", name := "isTakenBefore", desc := "(I)Z" } : Jvm.MethodName)) ∈ lw_tbl := List.mem_append_right _ (List.mem_of_getElem? (i := 1478) (by decide +kernel))
theorem kx_1479 : (Jvm.Cond.code ({ cls := "CoinJudge$TxView", name := "isTakenBefore", desc := "(I)Z" } : Jvm.MethodName) prog_12_method_13_code (4 : Nat) (Option.some Jvm.ClassFile.FieldType.boolean)) ∈ lw_tbl := List.mem_append_right _ (List.mem_of_getElem? (i := 1479) (by decide +kernel))
theorem kx_1483 : (Jvm.Cond.code ({ cls := "CoinJudge$TxView", name := "asks", desc := "()I" } : Jvm.MethodName) prog_12_method_10_code (3 : Nat) (Option.some Jvm.ClassFile.FieldType.int)) ∈ lw_tbl := List.mem_append_right _ (List.mem_of_getElem? (i := 1483) (by decide +kernel))
theorem kx_1484 : (Jvm.Cond.methodLink "CoinJudge$TxView" (83 : Nat) ({ cls := "CoinJudge$Machine", name := "asks", desc := "([BII)I" } : Jvm.MethodName)) ∈ lw_tbl := List.mem_append_right _ (List.mem_of_getElem? (i := 1484) (by decide +kernel))
theorem kx_1485 : (Jvm.Cond.static ({ cls := "CoinJudge$Machine", name := "asks", desc := "([BII)I" } : Jvm.MethodName)) ∈ lw_tbl := List.mem_append_right _ (List.mem_of_getElem? (i := 1485) (by decide +kernel))
theorem kx_1486 : (Jvm.Cond.code ({ cls := "CoinJudge$Machine", name := "asks", desc := "([BII)I" } : Jvm.MethodName) prog_9_method_4_code (7 : Nat) (Option.some Jvm.ClassFile.FieldType.int)) ∈ lw_tbl := List.mem_append_right _ (List.mem_of_getElem? (i := 1486) (by decide +kernel))
theorem kx_1490 : (Jvm.Cond.code ({ cls := "CoinJudge$TxView", name := "isLast", desc := "(IJ)Z" } : Jvm.MethodName) prog_12_method_8_code (7 : Nat) (Option.some Jvm.ClassFile.FieldType.boolean)) ∈ lw_tbl := List.mem_append_right _ (List.mem_of_getElem? (i := 1490) (by decide +kernel))
theorem kx_1491 : (Jvm.Cond.methodLink "CoinJudge$TxView" (72 : Nat) ({ cls := "CoinJudge$TxView", name := "lock", desc := "()J" } : Jvm.MethodName)) ∈ lw_tbl := List.mem_append_right _ (List.mem_of_getElem? (i := 1491) (by decide +kernel))
theorem kx_1492 : (Jvm.Cond.instanceMethod ({ cls := "CoinJudge$TxView", name := "lock", desc := "()J" } : Jvm.MethodName)) ∈ lw_tbl := List.mem_append_right _ (List.mem_of_getElem? (i := 1492) (by decide +kernel))
theorem kx_1493 : (Jvm.Cond.selects "CoinJudge$TxView" ({ cls := "CoinJudge$TxView", name := "lock", desc := "()J" } : Jvm.MethodName) ({ cls := "CoinJudge$TxView", name := "lock", desc := "()J" } : Jvm.MethodName)) ∈ lw_tbl := List.mem_append_right _ (List.mem_of_getElem? (i := 1493) (by decide +kernel))
theorem kx_1494 : (Jvm.Cond.code ({ cls := "CoinJudge$TxView", name := "lock", desc := "()J" } : Jvm.MethodName) prog_12_method_4_code (1 : Nat) (Option.some Jvm.ClassFile.FieldType.long)) ∈ lw_tbl := List.mem_append_right _ (List.mem_of_getElem? (i := 1494) (by decide +kernel))
theorem kx_1495 : (Jvm.Cond.constantLong "CoinJudge$TxView" (76 : Nat) (500000000 : Int64)) ∈ lw_tbl := List.mem_append_right _ (List.mem_of_getElem? (i := 1495) (by decide +kernel))
theorem kx_1496 : (Jvm.Cond.methodLink "CoinJudge$TxView" (78 : Nat) ({ cls := "CoinJudge$TxView", name := "sequence", desc := "(I)J" } : Jvm.MethodName)) ∈ lw_tbl := List.mem_append_right _ (List.mem_of_getElem? (i := 1496) (by decide +kernel))
theorem kx_1497 : (Jvm.Cond.instanceMethod ({ cls := "CoinJudge$TxView", name := "sequence", desc := "(I)J" } : Jvm.MethodName)) ∈ lw_tbl := List.mem_append_right _ (List.mem_of_getElem? (i := 1497) (by decide +kernel))
theorem kx_1498 : (Jvm.Cond.selects "CoinJudge$TxView" ({ cls := "CoinJudge$TxView", name := "sequence", desc := "(I)J" } : Jvm.MethodName) ({ cls := "CoinJudge$TxView", name := "sequence", desc := "(I)J" } : Jvm.MethodName)) ∈ lw_tbl := List.mem_append_right _ (List.mem_of_getElem? (i := 1498) (by decide +kernel))
theorem kx_1499 : (Jvm.Cond.code ({ cls := "CoinJudge$TxView", name := "sequence", desc := "(I)J" } : Jvm.MethodName) prog_12_method_3_code (2 : Nat) (Option.some Jvm.ClassFile.FieldType.long)) ∈ lw_tbl := List.mem_append_right _ (List.mem_of_getElem? (i := 1499) (by decide +kernel))
theorem kx_1535 : (Jvm.Cond.code ({ cls := "CoinJudge$TxView", name := "allValues", desc := "()J" } : Jvm.MethodName) prog_12_method_6_code (4 : Nat) (Option.some Jvm.ClassFile.FieldType.long)) ∈ lw_tbl := List.mem_append_right _ (List.mem_of_getElem? (i := 1535) (by decide +kernel))
theorem kx_1554 : (Jvm.Cond.code ({ cls := "CoinJudge$Stack", name := "clear", desc := "()V" } : Jvm.MethodName) prog_10_method_2_code (1 : Nat) (Option.none : Option Jvm.ClassFile.FieldType)) ∈ lw_tbl := List.mem_append_right _ (List.mem_of_getElem? (i := 1554) (by decide +kernel))
theorem kx_1562 : (Jvm.Cond.code ({ cls := "CoinJudge$Stack", name := "clearOther", desc := "()V" } : Jvm.MethodName) prog_10_method_3_code (1 : Nat) (Option.none : Option Jvm.ClassFile.FieldType)) ∈ lw_tbl := List.mem_append_right _ (List.mem_of_getElem? (i := 1562) (by decide +kernel))
theorem kx_1574 : (Jvm.Cond.code ({ cls := "CoinJudge$Stack", name := "isTopTrue", desc := "()Z" } : Jvm.MethodName) prog_10_method_13_code (4 : Nat) (Option.some Jvm.ClassFile.FieldType.boolean)) ∈ lw_tbl := List.mem_append_right _ (List.mem_of_getElem? (i := 1574) (by decide +kernel))
theorem kx_1578 : (Jvm.Cond.code ({ cls := "CoinJudge$Stack", name := "drop", desc := "(I)Z" } : Jvm.MethodName) prog_10_method_8_code (2 : Nat) (Option.some Jvm.ClassFile.FieldType.boolean)) ∈ lw_tbl := List.mem_append_right _ (List.mem_of_getElem? (i := 1578) (by decide +kernel))
theorem kx_1580 : (Jvm.Cond.instanceMethod ({ cls := "CoinJudge$Stack", name := "add", desc := "([BII)Z" } : Jvm.MethodName)) ∈ lw_tbl := List.mem_append_right _ (List.mem_of_getElem? (i := 1580) (by decide +kernel))
theorem kx_1581 : (Jvm.Cond.selects "CoinJudge$Stack" ({ cls := "CoinJudge$Stack", name := "add", desc := "([BII)Z" } : Jvm.MethodName) ({ cls := "CoinJudge$Stack", name := "add", desc := "([BII)Z" } : Jvm.MethodName)) ∈ lw_tbl := List.mem_append_right _ (List.mem_of_getElem? (i := 1581) (by decide +kernel))
theorem kx_1582 : (Jvm.Cond.code ({ cls := "CoinJudge$Stack", name := "add", desc := "([BII)Z" } : Jvm.MethodName) prog_10_method_5_code (4 : Nat) (Option.some Jvm.ClassFile.FieldType.boolean)) ∈ lw_tbl := List.mem_append_right _ (List.mem_of_getElem? (i := 1582) (by decide +kernel))
theorem kx_1583 : (Jvm.Cond.methodLink "CoinJudge$Stack" (41 : Nat) ({ cls := "java/lang/System", name := "arraycopy", desc := "(Ljava/lang/Object;ILjava/lang/Object;II)V" } : Jvm.MethodName)) ∈ lw_tbl := List.mem_append_right _ (List.mem_of_getElem? (i := 1583) (by decide +kernel))
theorem kx_1599 : (Jvm.Cond.code ({ cls := "CoinJudge$Stack", name := "hasNumber", desc := "(II)Z" } : Jvm.MethodName) prog_10_method_15_code (3 : Nat) (Option.some Jvm.ClassFile.FieldType.boolean)) ∈ lw_tbl := List.mem_append_right _ (List.mem_of_getElem? (i := 1599) (by decide +kernel))
theorem kx_1603 : (Jvm.Cond.code ({ cls := "CoinJudge$Stack", name := "number", desc := "(I)J" } : Jvm.MethodName) prog_10_method_16_code (7 : Nat) (Option.some Jvm.ClassFile.FieldType.long)) ∈ lw_tbl := List.mem_append_right _ (List.mem_of_getElem? (i := 1603) (by decide +kernel))
theorem kx_1646 : (Jvm.Cond.code ({ cls := "CoinJudge$Stack", name := "addFlag", desc := "(Z)Z" } : Jvm.MethodName) prog_10_method_7_code (2 : Nat) (Option.some Jvm.ClassFile.FieldType.boolean)) ∈ lw_tbl := List.mem_append_right _ (List.mem_of_getElem? (i := 1646) (by decide +kernel))
theorem kx_1647 : (Jvm.Cond.methodLink "CoinJudge$Stack" (47 : Nat) ({ cls := "CoinJudge$Stack", name := "add", desc := "([BII)Z" } : Jvm.MethodName)) ∈ lw_tbl := List.mem_append_right _ (List.mem_of_getElem? (i := 1647) (by decide +kernel))
theorem kx_1660 : (Jvm.Cond.code ({ cls := "CoinJudge$Stack", name := "addNumber", desc := "(J)Z" } : Jvm.MethodName) prog_10_method_6_code (6 : Nat) (Option.some Jvm.ClassFile.FieldType.boolean)) ∈ lw_tbl := List.mem_append_right _ (List.mem_of_getElem? (i := 1660) (by decide +kernel))
theorem kx_1670 : (Jvm.Cond.code ({ cls := "CoinJudge$Stack", name := "putAside", desc := "()Z" } : Jvm.MethodName) prog_10_method_11_code (1 : Nat) (Option.some Jvm.ClassFile.FieldType.boolean)) ∈ lw_tbl := List.mem_append_right _ (List.mem_of_getElem? (i := 1670) (by decide +kernel))
theorem kx_1674 : (Jvm.Cond.code ({ cls := "CoinJudge$Stack", name := "takeBack", desc := "()Z" } : Jvm.MethodName) prog_10_method_12_code (1 : Nat) (Option.some Jvm.ClassFile.FieldType.boolean)) ∈ lw_tbl := List.mem_append_right _ (List.mem_of_getElem? (i := 1674) (by decide +kernel))
theorem kx_1678 : (Jvm.Cond.code ({ cls := "CoinJudge$Stack", name := "copy", desc := "(I)Z" } : Jvm.MethodName) prog_10_method_9_code (2 : Nat) (Option.some Jvm.ClassFile.FieldType.boolean)) ∈ lw_tbl := List.mem_append_right _ (List.mem_of_getElem? (i := 1678) (by decide +kernel))
theorem kx_1682 : (Jvm.Cond.code ({ cls := "CoinJudge$Stack", name := "lift", desc := "(I)Z" } : Jvm.MethodName) prog_10_method_10_code (5 : Nat) (Option.some Jvm.ClassFile.FieldType.boolean)) ∈ lw_tbl := List.mem_append_right _ (List.mem_of_getElem? (i := 1682) (by decide +kernel))
theorem kx_1711 : (Jvm.Cond.code ({ cls := "CoinJudge$Stack", name := "areTopTwoSame", desc := "()Z" } : Jvm.MethodName) prog_10_method_14_code (3 : Nat) (Option.some Jvm.ClassFile.FieldType.boolean)) ∈ lw_tbl := List.mem_append_right _ (List.mem_of_getElem? (i := 1711) (by decide +kernel))
theorem kx_1715 : (Jvm.Cond.code ({ cls := "CoinJudge$TxView", name := "locksUntil", desc := "(JI)Z" } : Jvm.MethodName) prog_12_method_9_code (6 : Nat) (Option.some Jvm.ClassFile.FieldType.boolean)) ∈ lw_tbl := List.mem_append_right _ (List.mem_of_getElem? (i := 1715) (by decide +kernel))
theorem kx_1719 : (Jvm.Cond.code ({ cls := "CoinJudge$Stack", name := "isTooHigh", desc := "()Z" } : Jvm.MethodName) prog_10_method_4_code (1 : Nat) (Option.some Jvm.ClassFile.FieldType.boolean)) ∈ lw_tbl := List.mem_append_right _ (List.mem_of_getElem? (i := 1719) (by decide +kernel))
theorem kxp_5 : Cond.selects "CoinJudge$DraftTx" ({ cls := "CoinJudge$DraftTx", name := "takeScript", desc := "(ILCoinJudge$Buffer;)V" } : MethodName) ({ cls := "CoinJudge$DraftTx", name := "takeScript", desc := "(ILCoinJudge$Buffer;)V" } : MethodName) ∈ lw_tbl := List.mem_append_left _ (List.mem_of_getElem? (i := 5) (by decide +kernel))
theorem kxp_11 : Cond.selects "CoinJudge$TxView" ({ cls := "CoinJudge$TxView", name := "readCount", desc := "(II)I" } : MethodName) ({ cls := "CoinJudge$TxView", name := "readCount", desc := "(II)I" } : MethodName) ∈ lw_tbl := List.mem_append_left _ (List.mem_of_getElem? (i := 11) (by decide +kernel))
theorem kxp_29 : Cond.selects "CoinJudge$TxView" ({ cls := "CoinJudge$TxView", name := "isNone", desc := "(I)Z" } : MethodName) ({ cls := "CoinJudge$TxView", name := "isNone", desc := "(I)Z" } : MethodName) ∈ lw_tbl := List.mem_append_left _ (List.mem_of_getElem? (i := 29) (by decide +kernel))
theorem kxp_30 : Cond.selects "CoinJudge$TxView" ({ cls := "CoinJudge$TxView", name := "valuesFit", desc := "()Z" } : MethodName) ({ cls := "CoinJudge$TxView", name := "valuesFit", desc := "()Z" } : MethodName) ∈ lw_tbl := List.mem_append_left _ (List.mem_of_getElem? (i := 30) (by decide +kernel))
theorem kxp_31 : Cond.selects "CoinJudge$TxView" ({ cls := "CoinJudge$TxView", name := "isTakenBefore", desc := "(I)Z" } : MethodName) ({ cls := "CoinJudge$TxView", name := "isTakenBefore", desc := "(I)Z" } : MethodName) ∈ lw_tbl := List.mem_append_left _ (List.mem_of_getElem? (i := 31) (by decide +kernel))

theorem cl_X3 : vwCl[6]? = some (RX3, TX3, 4) := rfl
theorem in_X3 : ∀ w ∈ u_ws RX3 TX3 4, w ∈ lw_tbl ∧ goodWord w = true := by decide +kernel
abbrev mX3_init : ks_M := (RX3, cX3_init, 1, none, "<init>")
theorem dX3_init_0 : decode cX3_init 0 = .ok (.aload_n 0, 1) := by decide +kernel
theorem dX3_init_1 : decode cX3_init 1 = .ok (.invokespecial 3, 3) := by decide +kernel
theorem dX3_init_4 : decode cX3_init 4 = .ok (.aload_n 0, 1) := by decide +kernel
theorem dX3_init_5 : decode cX3_init 5 = .ok (.new 9, 3) := by decide +kernel
theorem dX3_init_8 : decode cX3_init 8 = .ok (.dup, 1) := by decide +kernel
theorem dX3_init_9 : decode cX3_init 9 = .ok (.getstatic 11, 3) := by decide +kernel
theorem dX3_init_12 : decode cX3_init 12 = .ok (.bipush 100, 2) := by decide +kernel
theorem dX3_init_14 : decode cX3_init 14 = .ok (.invokespecial 15, 3) := by decide +kernel
theorem dX3_init_17 : decode cX3_init 17 = .ok (.putfield 18, 3) := by decide +kernel
theorem dX3_init_20 : decode cX3_init 20 = .ok (.aload_n 0, 1) := by decide +kernel
theorem dX3_init_21 : decode cX3_init 21 = .ok (.new 9, 3) := by decide +kernel
theorem dX3_init_24 : decode cX3_init 24 = .ok (.dup, 1) := by decide +kernel
theorem dX3_init_25 : decode cX3_init 25 = .ok (.getstatic 22, 3) := by decide +kernel
theorem dX3_init_28 : decode cX3_init 28 = .ok (.iconst 5, 1) := by decide +kernel
theorem dX3_init_29 : decode cX3_init 29 = .ok (.invokespecial 15, 3) := by decide +kernel
theorem dX3_init_32 : decode cX3_init 32 = .ok (.putfield 25, 3) := by decide +kernel
theorem dX3_init_35 : decode cX3_init 35 = .ok (.aload_n 0, 1) := by decide +kernel
theorem dX3_init_36 : decode cX3_init 36 = .ok (.bipush 64, 2) := by decide +kernel
theorem dX3_init_38 : decode cX3_init 38 = .ok (.newarray .byte, 2) := by decide +kernel
theorem dX3_init_40 : decode cX3_init 40 = .ok (.putfield 28, 3) := by decide +kernel
theorem dX3_init_43 : decode cX3_init 43 = .ok (.aload_n 0, 1) := by decide +kernel
theorem dX3_init_44 : decode cX3_init 44 = .ok (.getfield 18, 3) := by decide +kernel
theorem dX3_init_47 : decode cX3_init 47 = .ok (.bipush 54, 2) := by decide +kernel
theorem dX3_init_49 : decode cX3_init 49 = .ok (.bipush 7, 2) := by decide +kernel
theorem dX3_init_51 : decode cX3_init 51 = .ok (.invokevirtual 32, 3) := by decide +kernel
theorem dX3_init_54 : decode cX3_init 54 = .ok (.aload_n 0, 1) := by decide +kernel
theorem dX3_init_55 : decode cX3_init 55 = .ok (.getfield 18, 3) := by decide +kernel
theorem dX3_init_58 : decode cX3_init 58 = .ok (.sipush 495, 3) := by decide +kernel
theorem dX3_init_61 : decode cX3_init 61 = .ok (.getstatic 36, 3) := by decide +kernel
theorem dX3_init_64 : decode cX3_init 64 = .ok (.invokevirtual 39, 3) := by decide +kernel
theorem dX3_init_67 : decode cX3_init 67 = .ok (.aload_n 0, 1) := by decide +kernel
theorem dX3_init_68 : decode cX3_init 68 = .ok (.getfield 18, 3) := by decide +kernel
theorem dX3_init_71 : decode cX3_init 71 = .ok (.sipush 504, 3) := by decide +kernel
theorem dX3_init_74 : decode cX3_init 74 = .ok (.getstatic 43, 3) := by decide +kernel
theorem dX3_init_77 : decode cX3_init 77 = .ok (.invokevirtual 39, 3) := by decide +kernel
theorem dX3_init_80 : decode cX3_init 80 = .ok (.aload_n 0, 1) := by decide +kernel
theorem dX3_init_81 : decode cX3_init 81 = .ok (.getfield 18, 3) := by decide +kernel
theorem dX3_init_84 : decode cX3_init 84 = .ok (.sipush 513, 3) := by decide +kernel
theorem dX3_init_87 : decode cX3_init 87 = .ok (.iconst 1, 1) := by decide +kernel
theorem dX3_init_88 : decode cX3_init 88 = .ok (.invokevirtual 32, 3) := by decide +kernel
theorem dX3_init_91 : decode cX3_init 91 = .ok (.aload_n 0, 1) := by decide +kernel
theorem dX3_init_92 : decode cX3_init 92 = .ok (.sipush 495, 3) := by decide +kernel
theorem dX3_init_95 : decode cX3_init 95 = .ok (.invokevirtual 46, 3) := by decide +kernel
theorem dX3_init_98 : decode cX3_init 98 = .ok (.return_, 1) := by decide +kernel
abbrev mX3_writeKey : ks_M := (RX3, cX3_writeKey, 4, none, "writeKey")
theorem dX3_writeKey_0 : decode cX3_writeKey 0 = .ok (.aload_n 0, 1) := by decide +kernel
theorem dX3_writeKey_1 : decode cX3_writeKey 1 = .ok (.getfield 25, 3) := by decide +kernel
theorem dX3_writeKey_4 : decode cX3_writeKey 4 = .ok (.bipush 27, 2) := by decide +kernel
theorem dX3_writeKey_6 : decode cX3_writeKey 6 = .ok (.iload_n 1, 1) := by decide +kernel
theorem dX3_writeKey_7 : decode cX3_writeKey 7 = .ok (.invokevirtual 32, 3) := by decide +kernel
theorem dX3_writeKey_10 : decode cX3_writeKey 10 = .ok (.aload_n 0, 1) := by decide +kernel
theorem dX3_writeKey_11 : decode cX3_writeKey 11 = .ok (.iconst 0, 1) := by decide +kernel
theorem dX3_writeKey_12 : decode cX3_writeKey 12 = .ok (.invokevirtual 50, 3) := by decide +kernel
theorem dX3_writeKey_15 : decode cX3_writeKey 15 = .ok (.aload_n 0, 1) := by decide +kernel
theorem dX3_writeKey_16 : decode cX3_writeKey 16 = .ok (.iconst 0, 1) := by decide +kernel
theorem dX3_writeKey_17 : decode cX3_writeKey 17 = .ok (.bipush 81, 2) := by decide +kernel
theorem dX3_writeKey_19 : decode cX3_writeKey 19 = .ok (.bipush 81, 2) := by decide +kernel
theorem dX3_writeKey_21 : decode cX3_writeKey 21 = .ok (.invokevirtual 54, 3) := by decide +kernel
theorem dX3_writeKey_24 : decode cX3_writeKey 24 = .ok (.aload_n 0, 1) := by decide +kernel
theorem dX3_writeKey_25 : decode cX3_writeKey 25 = .ok (.getfield 18, 3) := by decide +kernel
theorem dX3_writeKey_28 : decode cX3_writeKey 28 = .ok (.bipush 36, 2) := by decide +kernel
theorem dX3_writeKey_30 : decode cX3_writeKey 30 = .ok (.bipush 63, 2) := by decide +kernel
theorem dX3_writeKey_32 : decode cX3_writeKey 32 = .ok (.iconst 0, 1) := by decide +kernel
theorem dX3_writeKey_33 : decode cX3_writeKey 33 = .ok (.invokevirtual 58, 3) := by decide +kernel
theorem dX3_writeKey_36 : decode cX3_writeKey 36 = .ok (.aload_n 0, 1) := by decide +kernel
theorem dX3_writeKey_37 : decode cX3_writeKey 37 = .ok (.iconst 0, 1) := by decide +kernel
theorem dX3_writeKey_38 : decode cX3_writeKey 38 = .ok (.iconst 0, 1) := by decide +kernel
theorem dX3_writeKey_39 : decode cX3_writeKey 39 = .ok (.bipush 81, 2) := by decide +kernel
theorem dX3_writeKey_41 : decode cX3_writeKey 41 = .ok (.invokevirtual 54, 3) := by decide +kernel
theorem dX3_writeKey_44 : decode cX3_writeKey 44 = .ok (.aload_n 0, 1) := by decide +kernel
theorem dX3_writeKey_45 : decode cX3_writeKey 45 = .ok (.getfield 18, 3) := by decide +kernel
theorem dX3_writeKey_48 : decode cX3_writeKey 48 = .ok (.bipush 45, 2) := by decide +kernel
theorem dX3_writeKey_50 : decode cX3_writeKey 50 = .ok (.bipush 72, 2) := by decide +kernel
theorem dX3_writeKey_52 : decode cX3_writeKey 52 = .ok (.iconst 0, 1) := by decide +kernel
theorem dX3_writeKey_53 : decode cX3_writeKey 53 = .ok (.invokevirtual 58, 3) := by decide +kernel
theorem dX3_writeKey_56 : decode cX3_writeKey 56 = .ok (.aload_n 0, 1) := by decide +kernel
theorem dX3_writeKey_57 : decode cX3_writeKey 57 = .ok (.getfield 18, 3) := by decide +kernel
theorem dX3_writeKey_60 : decode cX3_writeKey 60 = .ok (.bipush 36, 2) := by decide +kernel
theorem dX3_writeKey_62 : decode cX3_writeKey 62 = .ok (.aload_n 0, 1) := by decide +kernel
theorem dX3_writeKey_63 : decode cX3_writeKey 63 = .ok (.getfield 28, 3) := by decide +kernel
theorem dX3_writeKey_66 : decode cX3_writeKey 66 = .ok (.iconst 0, 1) := by decide +kernel
theorem dX3_writeKey_67 : decode cX3_writeKey 67 = .ok (.invokevirtual 61, 3) := by decide +kernel
theorem dX3_writeKey_70 : decode cX3_writeKey 70 = .ok (.aload_n 0, 1) := by decide +kernel
theorem dX3_writeKey_71 : decode cX3_writeKey 71 = .ok (.getfield 18, 3) := by decide +kernel
theorem dX3_writeKey_74 : decode cX3_writeKey 74 = .ok (.bipush 45, 2) := by decide +kernel
theorem dX3_writeKey_76 : decode cX3_writeKey 76 = .ok (.aload_n 0, 1) := by decide +kernel
theorem dX3_writeKey_77 : decode cX3_writeKey 77 = .ok (.getfield 28, 3) := by decide +kernel
theorem dX3_writeKey_80 : decode cX3_writeKey 80 = .ok (.bipush 32, 2) := by decide +kernel
theorem dX3_writeKey_82 : decode cX3_writeKey 82 = .ok (.invokevirtual 61, 3) := by decide +kernel
theorem dX3_writeKey_85 : decode cX3_writeKey 85 = .ok (.aload_n 3, 1) := by decide +kernel
theorem dX3_writeKey_86 : decode cX3_writeKey 86 = .ok (.iload_n 2, 1) := by decide +kernel
theorem dX3_writeKey_87 : decode cX3_writeKey 87 = .ok (.ifCond .eq 9, 3) := by decide +kernel
theorem dX3_writeKey_90 : decode cX3_writeKey 90 = .ok (.ldc2_w 65, 3) := by decide +kernel
theorem dX3_writeKey_93 : decode cX3_writeKey 93 = .ok (.goto 15, 3) := by decide +kernel
theorem dX3_writeKey_96 : decode cX3_writeKey 96 = .ok (.iconst 2, 1) := by decide +kernel
theorem dX3_writeKey_97 : decode cX3_writeKey 97 = .ok (.aload_n 0, 1) := by decide +kernel
theorem dX3_writeKey_98 : decode cX3_writeKey 98 = .ok (.getfield 28, 3) := by decide +kernel
theorem dX3_writeKey_101 : decode cX3_writeKey 101 = .ok (.bipush 63, 2) := by decide +kernel
theorem dX3_writeKey_103 : decode cX3_writeKey 103 = .ok (.baload, 1) := by decide +kernel
theorem dX3_writeKey_104 : decode cX3_writeKey 104 = .ok (.iconst 1, 1) := by decide +kernel
theorem dX3_writeKey_105 : decode cX3_writeKey 105 = .ok (.iand, 1) := by decide +kernel
theorem dX3_writeKey_106 : decode cX3_writeKey 106 = .ok (.iadd, 1) := by decide +kernel
theorem dX3_writeKey_107 : decode cX3_writeKey 107 = .ok (.i2l, 1) := by decide +kernel
theorem dX3_writeKey_108 : decode cX3_writeKey 108 = .ok (.iconst 1, 1) := by decide +kernel
theorem dX3_writeKey_109 : decode cX3_writeKey 109 = .ok (.invokevirtual 67, 3) := by decide +kernel
theorem dX3_writeKey_112 : decode cX3_writeKey 112 = .ok (.aload_n 3, 1) := by decide +kernel
theorem dX3_writeKey_113 : decode cX3_writeKey 113 = .ok (.aload_n 0, 1) := by decide +kernel
theorem dX3_writeKey_114 : decode cX3_writeKey 114 = .ok (.getfield 28, 3) := by decide +kernel
theorem dX3_writeKey_117 : decode cX3_writeKey 117 = .ok (.iconst 0, 1) := by decide +kernel
theorem dX3_writeKey_118 : decode cX3_writeKey 118 = .ok (.iload_n 2, 1) := by decide +kernel
theorem dX3_writeKey_119 : decode cX3_writeKey 119 = .ok (.ifCond .eq 8, 3) := by decide +kernel
theorem dX3_writeKey_122 : decode cX3_writeKey 122 = .ok (.bipush 64, 2) := by decide +kernel
theorem dX3_writeKey_124 : decode cX3_writeKey 124 = .ok (.goto 5, 3) := by decide +kernel
theorem dX3_writeKey_127 : decode cX3_writeKey 127 = .ok (.bipush 32, 2) := by decide +kernel
theorem dX3_writeKey_129 : decode cX3_writeKey 129 = .ok (.invokevirtual 73, 3) := by decide +kernel
theorem dX3_writeKey_132 : decode cX3_writeKey 132 = .ok (.return_, 1) := by decide +kernel
abbrev mX3_writeSignature : ks_M := (RX3, cX3_writeSignature, 7, none, "writeSignature")
theorem dX3_writeSignature_0 : decode cX3_writeSignature 0 = .ok (.aload_n 0, 1) := by decide +kernel
theorem dX3_writeSignature_1 : decode cX3_writeSignature 1 = .ok (.getfield 28, 3) := by decide +kernel
theorem dX3_writeSignature_4 : decode cX3_writeSignature 4 = .ok (.iconst 0, 1) := by decide +kernel
theorem dX3_writeSignature_5 : decode cX3_writeSignature 5 = .ok (.bipush 28, 2) := by decide +kernel
theorem dX3_writeSignature_7 : decode cX3_writeSignature 7 = .ok (.iconst 0, 1) := by decide +kernel
theorem dX3_writeSignature_8 : decode cX3_writeSignature 8 = .ok (.invokestatic 77, 3) := by decide +kernel
theorem dX3_writeSignature_11 : decode cX3_writeSignature 11 = .ok (.iconst 0, 1) := by decide +kernel
theorem dX3_writeSignature_12 : decode cX3_writeSignature 12 = .ok (.istore 6, 2) := by decide +kernel
theorem dX3_writeSignature_14 : decode cX3_writeSignature 14 = .ok (.iload 6, 2) := by decide +kernel
theorem dX3_writeSignature_16 : decode cX3_writeSignature 16 = .ok (.iconst 4, 1) := by decide +kernel
theorem dX3_writeSignature_17 : decode cX3_writeSignature 17 = .ok (.if_icmp .ge 30, 3) := by decide +kernel
theorem dX3_writeSignature_20 : decode cX3_writeSignature 20 = .ok (.aload_n 0, 1) := by decide +kernel
theorem dX3_writeSignature_21 : decode cX3_writeSignature 21 = .ok (.getfield 28, 3) := by decide +kernel
theorem dX3_writeSignature_24 : decode cX3_writeSignature 24 = .ok (.bipush 28, 2) := by decide +kernel
theorem dX3_writeSignature_26 : decode cX3_writeSignature 26 = .ok (.iload 6, 2) := by decide +kernel
theorem dX3_writeSignature_28 : decode cX3_writeSignature 28 = .ok (.iadd, 1) := by decide +kernel
theorem dX3_writeSignature_29 : decode cX3_writeSignature 29 = .ok (.iload_n 1, 1) := by decide +kernel
theorem dX3_writeSignature_30 : decode cX3_writeSignature 30 = .ok (.bipush 24, 2) := by decide +kernel
theorem dX3_writeSignature_32 : decode cX3_writeSignature 32 = .ok (.bipush 8, 2) := by decide +kernel
theorem dX3_writeSignature_34 : decode cX3_writeSignature 34 = .ok (.iload 6, 2) := by decide +kernel
theorem dX3_writeSignature_36 : decode cX3_writeSignature 36 = .ok (.imul, 1) := by decide +kernel
theorem dX3_writeSignature_37 : decode cX3_writeSignature 37 = .ok (.isub, 1) := by decide +kernel
theorem dX3_writeSignature_38 : decode cX3_writeSignature 38 = .ok (.iushr, 1) := by decide +kernel
theorem dX3_writeSignature_39 : decode cX3_writeSignature 39 = .ok (.i2b, 1) := by decide +kernel
theorem dX3_writeSignature_40 : decode cX3_writeSignature 40 = .ok (.bastore, 1) := by decide +kernel
theorem dX3_writeSignature_41 : decode cX3_writeSignature 41 = .ok (.iinc 6 1, 3) := by decide +kernel
theorem dX3_writeSignature_44 : decode cX3_writeSignature 44 = .ok (.goto (-30), 3) := by decide +kernel
theorem dX3_writeSignature_47 : decode cX3_writeSignature 47 = .ok (.aload_n 3, 1) := by decide +kernel
theorem dX3_writeSignature_48 : decode cX3_writeSignature 48 = .ok (.iconst 0, 1) := by decide +kernel
theorem dX3_writeSignature_49 : decode cX3_writeSignature 49 = .ok (.aload_n 0, 1) := by decide +kernel
theorem dX3_writeSignature_50 : decode cX3_writeSignature 50 = .ok (.getfield 28, 3) := by decide +kernel
theorem dX3_writeSignature_53 : decode cX3_writeSignature 53 = .ok (.bipush 32, 2) := by decide +kernel
theorem dX3_writeSignature_55 : decode cX3_writeSignature 55 = .ok (.bipush 32, 2) := by decide +kernel
theorem dX3_writeSignature_57 : decode cX3_writeSignature 57 = .ok (.invokestatic 83, 3) := by decide +kernel
theorem dX3_writeSignature_60 : decode cX3_writeSignature 60 = .ok (.aload 4, 2) := by decide +kernel
theorem dX3_writeSignature_62 : decode cX3_writeSignature 62 = .ok (.aload_n 0, 1) := by decide +kernel
theorem dX3_writeSignature_63 : decode cX3_writeSignature 63 = .ok (.getfield 28, 3) := by decide +kernel
theorem dX3_writeSignature_66 : decode cX3_writeSignature 66 = .ok (.iconst 0, 1) := by decide +kernel
theorem dX3_writeSignature_67 : decode cX3_writeSignature 67 = .ok (.bipush 64, 2) := by decide +kernel
theorem dX3_writeSignature_69 : decode cX3_writeSignature 69 = .ok (.aload_n 0, 1) := by decide +kernel
theorem dX3_writeSignature_70 : decode cX3_writeSignature 70 = .ok (.getfield 28, 3) := by decide +kernel
theorem dX3_writeSignature_73 : decode cX3_writeSignature 73 = .ok (.iconst 0, 1) := by decide +kernel
theorem dX3_writeSignature_74 : decode cX3_writeSignature 74 = .ok (.invokevirtual 89, 3) := by decide +kernel
theorem dX3_writeSignature_77 : decode cX3_writeSignature 77 = .ok (.aload_n 0, 1) := by decide +kernel
theorem dX3_writeSignature_78 : decode cX3_writeSignature 78 = .ok (.getfield 25, 3) := by decide +kernel
theorem dX3_writeSignature_81 : decode cX3_writeSignature 81 = .ok (.bipush 27, 2) := by decide +kernel
theorem dX3_writeSignature_83 : decode cX3_writeSignature 83 = .ok (.aload_n 0, 1) := by decide +kernel
theorem dX3_writeSignature_84 : decode cX3_writeSignature 84 = .ok (.getfield 28, 3) := by decide +kernel
theorem dX3_writeSignature_87 : decode cX3_writeSignature 87 = .ok (.iconst 0, 1) := by decide +kernel
theorem dX3_writeSignature_88 : decode cX3_writeSignature 88 = .ok (.invokevirtual 95, 3) := by decide +kernel
theorem dX3_writeSignature_91 : decode cX3_writeSignature 91 = .ok (.aload_n 0, 1) := by decide +kernel
theorem dX3_writeSignature_92 : decode cX3_writeSignature 92 = .ok (.getfield 25, 3) := by decide +kernel
theorem dX3_writeSignature_95 : decode cX3_writeSignature 95 = .ok (.bipush 27, 2) := by decide +kernel
theorem dX3_writeSignature_97 : decode cX3_writeSignature 97 = .ok (.invokevirtual 98, 3) := by decide +kernel
theorem dX3_writeSignature_100 : decode cX3_writeSignature 100 = .ok (.aload_n 0, 1) := by decide +kernel
theorem dX3_writeSignature_101 : decode cX3_writeSignature 101 = .ok (.iconst 0, 1) := by decide +kernel
theorem dX3_writeSignature_102 : decode cX3_writeSignature 102 = .ok (.invokevirtual 50, 3) := by decide +kernel
theorem dX3_writeSignature_105 : decode cX3_writeSignature 105 = .ok (.aload_n 0, 1) := by decide +kernel
theorem dX3_writeSignature_106 : decode cX3_writeSignature 106 = .ok (.iconst 0, 1) := by decide +kernel
theorem dX3_writeSignature_107 : decode cX3_writeSignature 107 = .ok (.bipush 81, 2) := by decide +kernel
theorem dX3_writeSignature_109 : decode cX3_writeSignature 109 = .ok (.bipush 81, 2) := by decide +kernel
theorem dX3_writeSignature_111 : decode cX3_writeSignature 111 = .ok (.invokevirtual 54, 3) := by decide +kernel
theorem dX3_writeSignature_114 : decode cX3_writeSignature 114 = .ok (.aload_n 0, 1) := by decide +kernel
theorem dX3_writeSignature_115 : decode cX3_writeSignature 115 = .ok (.getfield 18, 3) := by decide +kernel
theorem dX3_writeSignature_118 : decode cX3_writeSignature 118 = .ok (.iconst 0, 1) := by decide +kernel
theorem dX3_writeSignature_119 : decode cX3_writeSignature 119 = .ok (.bipush 63, 2) := by decide +kernel
theorem dX3_writeSignature_121 : decode cX3_writeSignature 121 = .ok (.iconst 0, 1) := by decide +kernel
theorem dX3_writeSignature_122 : decode cX3_writeSignature 122 = .ok (.invokevirtual 58, 3) := by decide +kernel
theorem dX3_writeSignature_125 : decode cX3_writeSignature 125 = .ok (.aload_n 0, 1) := by decide +kernel
theorem dX3_writeSignature_126 : decode cX3_writeSignature 126 = .ok (.getfield 18, 3) := by decide +kernel
theorem dX3_writeSignature_129 : decode cX3_writeSignature 129 = .ok (.iconst 0, 1) := by decide +kernel
theorem dX3_writeSignature_130 : decode cX3_writeSignature 130 = .ok (.aload_n 0, 1) := by decide +kernel
theorem dX3_writeSignature_131 : decode cX3_writeSignature 131 = .ok (.getfield 28, 3) := by decide +kernel
theorem dX3_writeSignature_134 : decode cX3_writeSignature 134 = .ok (.iconst 0, 1) := by decide +kernel
theorem dX3_writeSignature_135 : decode cX3_writeSignature 135 = .ok (.invokevirtual 61, 3) := by decide +kernel
theorem dX3_writeSignature_138 : decode cX3_writeSignature 138 = .ok (.aload_n 0, 1) := by decide +kernel
theorem dX3_writeSignature_139 : decode cX3_writeSignature 139 = .ok (.getfield 25, 3) := by decide +kernel
theorem dX3_writeSignature_142 : decode cX3_writeSignature 142 = .ok (.iconst 0, 1) := by decide +kernel
theorem dX3_writeSignature_143 : decode cX3_writeSignature 143 = .ok (.aload_n 0, 1) := by decide +kernel
theorem dX3_writeSignature_144 : decode cX3_writeSignature 144 = .ok (.getfield 28, 3) := by decide +kernel
theorem dX3_writeSignature_147 : decode cX3_writeSignature 147 = .ok (.iconst 0, 1) := by decide +kernel
theorem dX3_writeSignature_148 : decode cX3_writeSignature 148 = .ok (.invokevirtual 95, 3) := by decide +kernel
theorem dX3_writeSignature_151 : decode cX3_writeSignature 151 = .ok (.aload_n 0, 1) := by decide +kernel
theorem dX3_writeSignature_152 : decode cX3_writeSignature 152 = .ok (.getfield 25, 3) := by decide +kernel
theorem dX3_writeSignature_155 : decode cX3_writeSignature 155 = .ok (.iconst 0, 1) := by decide +kernel
theorem dX3_writeSignature_156 : decode cX3_writeSignature 156 = .ok (.invokevirtual 98, 3) := by decide +kernel
theorem dX3_writeSignature_159 : decode cX3_writeSignature 159 = .ok (.aload_n 0, 1) := by decide +kernel
theorem dX3_writeSignature_160 : decode cX3_writeSignature 160 = .ok (.getfield 25, 3) := by decide +kernel
theorem dX3_writeSignature_163 : decode cX3_writeSignature 163 = .ok (.bipush 9, 2) := by decide +kernel
theorem dX3_writeSignature_165 : decode cX3_writeSignature 165 = .ok (.aload_n 3, 1) := by decide +kernel
theorem dX3_writeSignature_166 : decode cX3_writeSignature 166 = .ok (.iconst 0, 1) := by decide +kernel
theorem dX3_writeSignature_167 : decode cX3_writeSignature 167 = .ok (.invokevirtual 95, 3) := by decide +kernel
theorem dX3_writeSignature_170 : decode cX3_writeSignature 170 = .ok (.aload_n 0, 1) := by decide +kernel
theorem dX3_writeSignature_171 : decode cX3_writeSignature 171 = .ok (.getfield 25, 3) := by decide +kernel
theorem dX3_writeSignature_174 : decode cX3_writeSignature 174 = .ok (.bipush 9, 2) := by decide +kernel
theorem dX3_writeSignature_176 : decode cX3_writeSignature 176 = .ok (.invokevirtual 98, 3) := by decide +kernel
theorem dX3_writeSignature_179 : decode cX3_writeSignature 179 = .ok (.aload_n 0, 1) := by decide +kernel
theorem dX3_writeSignature_180 : decode cX3_writeSignature 180 = .ok (.bipush 9, 2) := by decide +kernel
theorem dX3_writeSignature_182 : decode cX3_writeSignature 182 = .ok (.iconst 0, 1) := by decide +kernel
theorem dX3_writeSignature_183 : decode cX3_writeSignature 183 = .ok (.iload_n 1, 1) := by decide +kernel
theorem dX3_writeSignature_184 : decode cX3_writeSignature 184 = .ok (.invokevirtual 101, 3) := by decide +kernel
theorem dX3_writeSignature_187 : decode cX3_writeSignature 187 = .ok (.aload_n 0, 1) := by decide +kernel
theorem dX3_writeSignature_188 : decode cX3_writeSignature 188 = .ok (.getfield 25, 3) := by decide +kernel
theorem dX3_writeSignature_191 : decode cX3_writeSignature 191 = .ok (.bipush 9, 2) := by decide +kernel
theorem dX3_writeSignature_193 : decode cX3_writeSignature 193 = .ok (.bipush 9, 2) := by decide +kernel
theorem dX3_writeSignature_195 : decode cX3_writeSignature 195 = .ok (.bipush 27, 2) := by decide +kernel
theorem dX3_writeSignature_197 : decode cX3_writeSignature 197 = .ok (.invokevirtual 58, 3) := by decide +kernel
theorem dX3_writeSignature_200 : decode cX3_writeSignature 200 = .ok (.aload 5, 2) := by decide +kernel
theorem dX3_writeSignature_202 : decode cX3_writeSignature 202 = .ok (.invokevirtual 104, 3) := by decide +kernel
theorem dX3_writeSignature_205 : decode cX3_writeSignature 205 = .ok (.aload 5, 2) := by decide +kernel
theorem dX3_writeSignature_207 : decode cX3_writeSignature 207 = .ok (.ldc2_w 107, 3) := by decide +kernel
theorem dX3_writeSignature_210 : decode cX3_writeSignature 210 = .ok (.iconst 1, 1) := by decide +kernel
theorem dX3_writeSignature_211 : decode cX3_writeSignature 211 = .ok (.invokevirtual 67, 3) := by decide +kernel
theorem dX3_writeSignature_214 : decode cX3_writeSignature 214 = .ok (.aload 5, 2) := by decide +kernel
theorem dX3_writeSignature_216 : decode cX3_writeSignature 216 = .ok (.lconst 0, 1) := by decide +kernel
theorem dX3_writeSignature_217 : decode cX3_writeSignature 217 = .ok (.iconst 1, 1) := by decide +kernel
theorem dX3_writeSignature_218 : decode cX3_writeSignature 218 = .ok (.invokevirtual 67, 3) := by decide +kernel
theorem dX3_writeSignature_221 : decode cX3_writeSignature 221 = .ok (.aload_n 0, 1) := by decide +kernel
theorem dX3_writeSignature_222 : decode cX3_writeSignature 222 = .ok (.iconst 0, 1) := by decide +kernel
theorem dX3_writeSignature_223 : decode cX3_writeSignature 223 = .ok (.aload 5, 2) := by decide +kernel
theorem dX3_writeSignature_225 : decode cX3_writeSignature 225 = .ok (.invokevirtual 109, 3) := by decide +kernel
theorem dX3_writeSignature_228 : decode cX3_writeSignature 228 = .ok (.aload_n 0, 1) := by decide +kernel
theorem dX3_writeSignature_229 : decode cX3_writeSignature 229 = .ok (.bipush 9, 2) := by decide +kernel
theorem dX3_writeSignature_231 : decode cX3_writeSignature 231 = .ok (.aload 5, 2) := by decide +kernel
theorem dX3_writeSignature_233 : decode cX3_writeSignature 233 = .ok (.invokevirtual 109, 3) := by decide +kernel
theorem dX3_writeSignature_236 : decode cX3_writeSignature 236 = .ok (.aload 5, 2) := by decide +kernel
theorem dX3_writeSignature_238 : decode cX3_writeSignature 238 = .ok (.getfield 113, 3) := by decide +kernel
theorem dX3_writeSignature_241 : decode cX3_writeSignature 241 = .ok (.iconst 1, 1) := by decide +kernel
theorem dX3_writeSignature_242 : decode cX3_writeSignature 242 = .ok (.aload 5, 2) := by decide +kernel
theorem dX3_writeSignature_244 : decode cX3_writeSignature 244 = .ok (.getfield 116, 3) := by decide +kernel
theorem dX3_writeSignature_247 : decode cX3_writeSignature 247 = .ok (.iconst 2, 1) := by decide +kernel
theorem dX3_writeSignature_248 : decode cX3_writeSignature 248 = .ok (.isub, 1) := by decide +kernel
theorem dX3_writeSignature_249 : decode cX3_writeSignature 249 = .ok (.i2b, 1) := by decide +kernel
theorem dX3_writeSignature_250 : decode cX3_writeSignature 250 = .ok (.bastore, 1) := by decide +kernel
theorem dX3_writeSignature_251 : decode cX3_writeSignature 251 = .ok (.aload 5, 2) := by decide +kernel
theorem dX3_writeSignature_253 : decode cX3_writeSignature 253 = .ok (.iload_n 2, 1) := by decide +kernel
theorem dX3_writeSignature_254 : decode cX3_writeSignature 254 = .ok (.i2l, 1) := by decide +kernel
theorem dX3_writeSignature_255 : decode cX3_writeSignature 255 = .ok (.iconst 1, 1) := by decide +kernel
theorem dX3_writeSignature_256 : decode cX3_writeSignature 256 = .ok (.invokevirtual 67, 3) := by decide +kernel
theorem dX3_writeSignature_259 : decode cX3_writeSignature 259 = .ok (.return_, 1) := by decide +kernel
abbrev mX3_takeSignature : ks_M := (RX3, cX3_takeSignature, 6, (some .boolean), "takeSignature")
theorem dX3_takeSignature_0 : decode cX3_takeSignature 0 = .ok (.iload_n 3, 1) := by decide +kernel
theorem dX3_takeSignature_1 : decode cX3_takeSignature 1 = .ok (.bipush 9, 2) := by decide +kernel
theorem dX3_takeSignature_3 : decode cX3_takeSignature 3 = .ok (.if_icmp .lt 32, 3) := by decide +kernel
theorem dX3_takeSignature_6 : decode cX3_takeSignature 6 = .ok (.iload_n 3, 1) := by decide +kernel
theorem dX3_takeSignature_7 : decode cX3_takeSignature 7 = .ok (.bipush 73, 2) := by decide +kernel
theorem dX3_takeSignature_9 : decode cX3_takeSignature 9 = .ok (.if_icmp .gt 26, 3) := by decide +kernel
theorem dX3_takeSignature_12 : decode cX3_takeSignature 12 = .ok (.aload_n 1, 1) := by decide +kernel
theorem dX3_takeSignature_13 : decode cX3_takeSignature 13 = .ok (.iload_n 2, 1) := by decide +kernel
theorem dX3_takeSignature_14 : decode cX3_takeSignature 14 = .ok (.baload, 1) := by decide +kernel
theorem dX3_takeSignature_15 : decode cX3_takeSignature 15 = .ok (.bipush 48, 2) := by decide +kernel
theorem dX3_takeSignature_17 : decode cX3_takeSignature 17 = .ok (.if_icmp .ne 18, 3) := by decide +kernel
theorem dX3_takeSignature_20 : decode cX3_takeSignature 20 = .ok (.aload_n 1, 1) := by decide +kernel
theorem dX3_takeSignature_21 : decode cX3_takeSignature 21 = .ok (.iload_n 2, 1) := by decide +kernel
theorem dX3_takeSignature_22 : decode cX3_takeSignature 22 = .ok (.iconst 1, 1) := by decide +kernel
theorem dX3_takeSignature_23 : decode cX3_takeSignature 23 = .ok (.iadd, 1) := by decide +kernel
theorem dX3_takeSignature_24 : decode cX3_takeSignature 24 = .ok (.baload, 1) := by decide +kernel
theorem dX3_takeSignature_25 : decode cX3_takeSignature 25 = .ok (.sipush 255, 3) := by decide +kernel
theorem dX3_takeSignature_28 : decode cX3_takeSignature 28 = .ok (.iand, 1) := by decide +kernel
theorem dX3_takeSignature_29 : decode cX3_takeSignature 29 = .ok (.iload_n 3, 1) := by decide +kernel
theorem dX3_takeSignature_30 : decode cX3_takeSignature 30 = .ok (.iconst 3, 1) := by decide +kernel
theorem dX3_takeSignature_31 : decode cX3_takeSignature 31 = .ok (.isub, 1) := by decide +kernel
theorem dX3_takeSignature_32 : decode cX3_takeSignature 32 = .ok (.if_icmp .eq 5, 3) := by decide +kernel
theorem dX3_takeSignature_35 : decode cX3_takeSignature 35 = .ok (.iconst 0, 1) := by decide +kernel
theorem dX3_takeSignature_36 : decode cX3_takeSignature 36 = .ok (.ireturn, 1) := by decide +kernel
theorem dX3_takeSignature_37 : decode cX3_takeSignature 37 = .ok (.aload_n 1, 1) := by decide +kernel
theorem dX3_takeSignature_38 : decode cX3_takeSignature 38 = .ok (.iload_n 2, 1) := by decide +kernel
theorem dX3_takeSignature_39 : decode cX3_takeSignature 39 = .ok (.iconst 3, 1) := by decide +kernel
theorem dX3_takeSignature_40 : decode cX3_takeSignature 40 = .ok (.iadd, 1) := by decide +kernel
theorem dX3_takeSignature_41 : decode cX3_takeSignature 41 = .ok (.baload, 1) := by decide +kernel
theorem dX3_takeSignature_42 : decode cX3_takeSignature 42 = .ok (.sipush 255, 3) := by decide +kernel
theorem dX3_takeSignature_45 : decode cX3_takeSignature 45 = .ok (.iand, 1) := by decide +kernel
theorem dX3_takeSignature_46 : decode cX3_takeSignature 46 = .ok (.istore 4, 2) := by decide +kernel
theorem dX3_takeSignature_48 : decode cX3_takeSignature 48 = .ok (.iload_n 3, 1) := by decide +kernel
theorem dX3_takeSignature_49 : decode cX3_takeSignature 49 = .ok (.bipush 7, 2) := by decide +kernel
theorem dX3_takeSignature_51 : decode cX3_takeSignature 51 = .ok (.isub, 1) := by decide +kernel
theorem dX3_takeSignature_52 : decode cX3_takeSignature 52 = .ok (.iload 4, 2) := by decide +kernel
theorem dX3_takeSignature_54 : decode cX3_takeSignature 54 = .ok (.isub, 1) := by decide +kernel
theorem dX3_takeSignature_55 : decode cX3_takeSignature 55 = .ok (.istore 5, 2) := by decide +kernel
theorem dX3_takeSignature_57 : decode cX3_takeSignature 57 = .ok (.iload 5, 2) := by decide +kernel
theorem dX3_takeSignature_59 : decode cX3_takeSignature 59 = .ok (.iconst 1, 1) := by decide +kernel
theorem dX3_takeSignature_60 : decode cX3_takeSignature 60 = .ok (.if_icmp .lt 20, 3) := by decide +kernel
theorem dX3_takeSignature_63 : decode cX3_takeSignature 63 = .ok (.aload_n 1, 1) := by decide +kernel
theorem dX3_takeSignature_64 : decode cX3_takeSignature 64 = .ok (.iload_n 2, 1) := by decide +kernel
theorem dX3_takeSignature_65 : decode cX3_takeSignature 65 = .ok (.iconst 5, 1) := by decide +kernel
theorem dX3_takeSignature_66 : decode cX3_takeSignature 66 = .ok (.iadd, 1) := by decide +kernel
theorem dX3_takeSignature_67 : decode cX3_takeSignature 67 = .ok (.iload 4, 2) := by decide +kernel
theorem dX3_takeSignature_69 : decode cX3_takeSignature 69 = .ok (.iadd, 1) := by decide +kernel
theorem dX3_takeSignature_70 : decode cX3_takeSignature 70 = .ok (.baload, 1) := by decide +kernel
theorem dX3_takeSignature_71 : decode cX3_takeSignature 71 = .ok (.sipush 255, 3) := by decide +kernel
theorem dX3_takeSignature_74 : decode cX3_takeSignature 74 = .ok (.iand, 1) := by decide +kernel
theorem dX3_takeSignature_75 : decode cX3_takeSignature 75 = .ok (.iload 5, 2) := by decide +kernel
theorem dX3_takeSignature_77 : decode cX3_takeSignature 77 = .ok (.if_icmp .eq 5, 3) := by decide +kernel
theorem dX3_takeSignature_80 : decode cX3_takeSignature 80 = .ok (.iconst 0, 1) := by decide +kernel
theorem dX3_takeSignature_81 : decode cX3_takeSignature 81 = .ok (.ireturn, 1) := by decide +kernel
theorem dX3_takeSignature_82 : decode cX3_takeSignature 82 = .ok (.aload_n 1, 1) := by decide +kernel
theorem dX3_takeSignature_83 : decode cX3_takeSignature 83 = .ok (.iload_n 2, 1) := by decide +kernel
theorem dX3_takeSignature_84 : decode cX3_takeSignature 84 = .ok (.iconst 2, 1) := by decide +kernel
theorem dX3_takeSignature_85 : decode cX3_takeSignature 85 = .ok (.iadd, 1) := by decide +kernel
theorem dX3_takeSignature_86 : decode cX3_takeSignature 86 = .ok (.iload 4, 2) := by decide +kernel
theorem dX3_takeSignature_88 : decode cX3_takeSignature 88 = .ok (.invokestatic 120, 3) := by decide +kernel
theorem dX3_takeSignature_91 : decode cX3_takeSignature 91 = .ok (.ifCond .eq 18, 3) := by decide +kernel
theorem dX3_takeSignature_94 : decode cX3_takeSignature 94 = .ok (.aload_n 1, 1) := by decide +kernel
theorem dX3_takeSignature_95 : decode cX3_takeSignature 95 = .ok (.iload_n 2, 1) := by decide +kernel
theorem dX3_takeSignature_96 : decode cX3_takeSignature 96 = .ok (.iconst 4, 1) := by decide +kernel
theorem dX3_takeSignature_97 : decode cX3_takeSignature 97 = .ok (.iadd, 1) := by decide +kernel
theorem dX3_takeSignature_98 : decode cX3_takeSignature 98 = .ok (.iload 4, 2) := by decide +kernel
theorem dX3_takeSignature_100 : decode cX3_takeSignature 100 = .ok (.iadd, 1) := by decide +kernel
theorem dX3_takeSignature_101 : decode cX3_takeSignature 101 = .ok (.iload 5, 2) := by decide +kernel
theorem dX3_takeSignature_103 : decode cX3_takeSignature 103 = .ok (.invokestatic 120, 3) := by decide +kernel
theorem dX3_takeSignature_106 : decode cX3_takeSignature 106 = .ok (.ifCond .ne 5, 3) := by decide +kernel
theorem dX3_takeSignature_109 : decode cX3_takeSignature 109 = .ok (.iconst 0, 1) := by decide +kernel
theorem dX3_takeSignature_110 : decode cX3_takeSignature 110 = .ok (.ireturn, 1) := by decide +kernel
theorem dX3_takeSignature_111 : decode cX3_takeSignature 111 = .ok (.aload_n 0, 1) := by decide +kernel
theorem dX3_takeSignature_112 : decode cX3_takeSignature 112 = .ok (.aload_n 0, 1) := by decide +kernel
theorem dX3_takeSignature_113 : decode cX3_takeSignature 113 = .ok (.iconst 0, 1) := by decide +kernel
theorem dX3_takeSignature_114 : decode cX3_takeSignature 114 = .ok (.aload_n 1, 1) := by decide +kernel
theorem dX3_takeSignature_115 : decode cX3_takeSignature 115 = .ok (.iload_n 2, 1) := by decide +kernel
theorem dX3_takeSignature_116 : decode cX3_takeSignature 116 = .ok (.iconst 4, 1) := by decide +kernel
theorem dX3_takeSignature_117 : decode cX3_takeSignature 117 = .ok (.iadd, 1) := by decide +kernel
theorem dX3_takeSignature_118 : decode cX3_takeSignature 118 = .ok (.iload 4, 2) := by decide +kernel
theorem dX3_takeSignature_120 : decode cX3_takeSignature 120 = .ok (.invokevirtual 124, 3) := by decide +kernel
theorem dX3_takeSignature_123 : decode cX3_takeSignature 123 = .ok (.ifCond .eq 26, 3) := by decide +kernel
theorem dX3_takeSignature_126 : decode cX3_takeSignature 126 = .ok (.aload_n 0, 1) := by decide +kernel
theorem dX3_takeSignature_127 : decode cX3_takeSignature 127 = .ok (.bipush 9, 2) := by decide +kernel
theorem dX3_takeSignature_129 : decode cX3_takeSignature 129 = .ok (.aload_n 1, 1) := by decide +kernel
theorem dX3_takeSignature_130 : decode cX3_takeSignature 130 = .ok (.iload_n 2, 1) := by decide +kernel
theorem dX3_takeSignature_131 : decode cX3_takeSignature 131 = .ok (.bipush 6, 2) := by decide +kernel
theorem dX3_takeSignature_133 : decode cX3_takeSignature 133 = .ok (.iadd, 1) := by decide +kernel
theorem dX3_takeSignature_134 : decode cX3_takeSignature 134 = .ok (.iload 4, 2) := by decide +kernel
theorem dX3_takeSignature_136 : decode cX3_takeSignature 136 = .ok (.iadd, 1) := by decide +kernel
theorem dX3_takeSignature_137 : decode cX3_takeSignature 137 = .ok (.iload 5, 2) := by decide +kernel
theorem dX3_takeSignature_139 : decode cX3_takeSignature 139 = .ok (.invokevirtual 124, 3) := by decide +kernel
theorem dX3_takeSignature_142 : decode cX3_takeSignature 142 = .ok (.ifCond .eq 7, 3) := by decide +kernel
theorem dX3_takeSignature_145 : decode cX3_takeSignature 145 = .ok (.iconst 1, 1) := by decide +kernel
theorem dX3_takeSignature_146 : decode cX3_takeSignature 146 = .ok (.goto 4, 3) := by decide +kernel
theorem dX3_takeSignature_149 : decode cX3_takeSignature 149 = .ok (.iconst 0, 1) := by decide +kernel
theorem dX3_takeSignature_150 : decode cX3_takeSignature 150 = .ok (.putfield 128, 3) := by decide +kernel
theorem dX3_takeSignature_153 : decode cX3_takeSignature 153 = .ok (.iconst 1, 1) := by decide +kernel
theorem dX3_takeSignature_154 : decode cX3_takeSignature 154 = .ok (.ireturn, 1) := by decide +kernel
abbrev mX3_takeKey : ks_M := (RX3, cX3_takeKey, 5, (some .boolean), "takeKey")
theorem dX3_takeKey_0 : decode cX3_takeKey 0 = .ok (.iload_n 3, 1) := by decide +kernel
theorem dX3_takeKey_1 : decode cX3_takeKey 1 = .ok (.bipush 65, 2) := by decide +kernel
theorem dX3_takeKey_3 : decode cX3_takeKey 3 = .ok (.if_icmp .ne 14, 3) := by decide +kernel
theorem dX3_takeKey_6 : decode cX3_takeKey 6 = .ok (.aload_n 1, 1) := by decide +kernel
theorem dX3_takeKey_7 : decode cX3_takeKey 7 = .ok (.iload_n 2, 1) := by decide +kernel
theorem dX3_takeKey_8 : decode cX3_takeKey 8 = .ok (.baload, 1) := by decide +kernel
theorem dX3_takeKey_9 : decode cX3_takeKey 9 = .ok (.iconst 4, 1) := by decide +kernel
theorem dX3_takeKey_10 : decode cX3_takeKey 10 = .ok (.if_icmp .ne 7, 3) := by decide +kernel
theorem dX3_takeKey_13 : decode cX3_takeKey 13 = .ok (.iconst 1, 1) := by decide +kernel
theorem dX3_takeKey_14 : decode cX3_takeKey 14 = .ok (.goto 4, 3) := by decide +kernel
theorem dX3_takeKey_17 : decode cX3_takeKey 17 = .ok (.iconst 0, 1) := by decide +kernel
theorem dX3_takeKey_18 : decode cX3_takeKey 18 = .ok (.istore 4, 2) := by decide +kernel
theorem dX3_takeKey_20 : decode cX3_takeKey 20 = .ok (.iload 4, 2) := by decide +kernel
theorem dX3_takeKey_22 : decode cX3_takeKey 22 = .ok (.ifCond .ne 25, 3) := by decide +kernel
theorem dX3_takeKey_25 : decode cX3_takeKey 25 = .ok (.iload_n 3, 1) := by decide +kernel
theorem dX3_takeKey_26 : decode cX3_takeKey 26 = .ok (.bipush 33, 2) := by decide +kernel
theorem dX3_takeKey_28 : decode cX3_takeKey 28 = .ok (.if_icmp .ne 17, 3) := by decide +kernel
theorem dX3_takeKey_31 : decode cX3_takeKey 31 = .ok (.aload_n 1, 1) := by decide +kernel
theorem dX3_takeKey_32 : decode cX3_takeKey 32 = .ok (.iload_n 2, 1) := by decide +kernel
theorem dX3_takeKey_33 : decode cX3_takeKey 33 = .ok (.baload, 1) := by decide +kernel
theorem dX3_takeKey_34 : decode cX3_takeKey 34 = .ok (.iconst 2, 1) := by decide +kernel
theorem dX3_takeKey_35 : decode cX3_takeKey 35 = .ok (.if_icmp .eq 12, 3) := by decide +kernel
theorem dX3_takeKey_38 : decode cX3_takeKey 38 = .ok (.aload_n 1, 1) := by decide +kernel
theorem dX3_takeKey_39 : decode cX3_takeKey 39 = .ok (.iload_n 2, 1) := by decide +kernel
theorem dX3_takeKey_40 : decode cX3_takeKey 40 = .ok (.baload, 1) := by decide +kernel
theorem dX3_takeKey_41 : decode cX3_takeKey 41 = .ok (.iconst 3, 1) := by decide +kernel
theorem dX3_takeKey_42 : decode cX3_takeKey 42 = .ok (.if_icmp .eq 5, 3) := by decide +kernel
theorem dX3_takeKey_45 : decode cX3_takeKey 45 = .ok (.iconst 0, 1) := by decide +kernel
theorem dX3_takeKey_46 : decode cX3_takeKey 46 = .ok (.ireturn, 1) := by decide +kernel
theorem dX3_takeKey_47 : decode cX3_takeKey 47 = .ok (.aload_n 0, 1) := by decide +kernel
theorem dX3_takeKey_48 : decode cX3_takeKey 48 = .ok (.getfield 18, 3) := by decide +kernel
theorem dX3_takeKey_51 : decode cX3_takeKey 51 = .ok (.bipush 90, 2) := by decide +kernel
theorem dX3_takeKey_53 : decode cX3_takeKey 53 = .ok (.aload_n 1, 1) := by decide +kernel
theorem dX3_takeKey_54 : decode cX3_takeKey 54 = .ok (.iload_n 2, 1) := by decide +kernel
theorem dX3_takeKey_55 : decode cX3_takeKey 55 = .ok (.iconst 1, 1) := by decide +kernel
theorem dX3_takeKey_56 : decode cX3_takeKey 56 = .ok (.iadd, 1) := by decide +kernel
theorem dX3_takeKey_57 : decode cX3_takeKey 57 = .ok (.invokevirtual 95, 3) := by decide +kernel
theorem dX3_takeKey_60 : decode cX3_takeKey 60 = .ok (.aload_n 0, 1) := by decide +kernel
theorem dX3_takeKey_61 : decode cX3_takeKey 61 = .ok (.getfield 18, 3) := by decide +kernel
theorem dX3_takeKey_64 : decode cX3_takeKey 64 = .ok (.bipush 90, 2) := by decide +kernel
theorem dX3_takeKey_66 : decode cX3_takeKey 66 = .ok (.aload_n 0, 1) := by decide +kernel
theorem dX3_takeKey_67 : decode cX3_takeKey 67 = .ok (.getfield 18, 3) := by decide +kernel
theorem dX3_takeKey_70 : decode cX3_takeKey 70 = .ok (.getfield 132, 3) := by decide +kernel
theorem dX3_takeKey_73 : decode cX3_takeKey 73 = .ok (.invokevirtual 135, 3) := by decide +kernel
theorem dX3_takeKey_76 : decode cX3_takeKey 76 = .ok (.ifCond .ne 5, 3) := by decide +kernel
theorem dX3_takeKey_79 : decode cX3_takeKey 79 = .ok (.iconst 0, 1) := by decide +kernel
theorem dX3_takeKey_80 : decode cX3_takeKey 80 = .ok (.ireturn, 1) := by decide +kernel
theorem dX3_takeKey_81 : decode cX3_takeKey 81 = .ok (.aload_n 0, 1) := by decide +kernel
theorem dX3_takeKey_82 : decode cX3_takeKey 82 = .ok (.iconst 0, 1) := by decide +kernel
theorem dX3_takeKey_83 : decode cX3_takeKey 83 = .ok (.bipush 90, 2) := by decide +kernel
theorem dX3_takeKey_85 : decode cX3_takeKey 85 = .ok (.bipush 90, 2) := by decide +kernel
theorem dX3_takeKey_87 : decode cX3_takeKey 87 = .ok (.invokevirtual 54, 3) := by decide +kernel
theorem dX3_takeKey_90 : decode cX3_takeKey 90 = .ok (.aload_n 0, 1) := by decide +kernel
theorem dX3_takeKey_91 : decode cX3_takeKey 91 = .ok (.iconst 0, 1) := by decide +kernel
theorem dX3_takeKey_92 : decode cX3_takeKey 92 = .ok (.iconst 0, 1) := by decide +kernel
theorem dX3_takeKey_93 : decode cX3_takeKey 93 = .ok (.bipush 90, 2) := by decide +kernel
theorem dX3_takeKey_95 : decode cX3_takeKey 95 = .ok (.invokevirtual 54, 3) := by decide +kernel
theorem dX3_takeKey_98 : decode cX3_takeKey 98 = .ok (.aload_n 0, 1) := by decide +kernel
theorem dX3_takeKey_99 : decode cX3_takeKey 99 = .ok (.getfield 18, 3) := by decide +kernel
theorem dX3_takeKey_102 : decode cX3_takeKey 102 = .ok (.iconst 0, 1) := by decide +kernel
theorem dX3_takeKey_103 : decode cX3_takeKey 103 = .ok (.iconst 0, 1) := by decide +kernel
theorem dX3_takeKey_104 : decode cX3_takeKey 104 = .ok (.bipush 54, 2) := by decide +kernel
theorem dX3_takeKey_106 : decode cX3_takeKey 106 = .ok (.invokevirtual 139, 3) := by decide +kernel
theorem dX3_takeKey_109 : decode cX3_takeKey 109 = .ok (.iload 4, 2) := by decide +kernel
theorem dX3_takeKey_111 : decode cX3_takeKey 111 = .ok (.ifCond .eq 38, 3) := by decide +kernel
theorem dX3_takeKey_114 : decode cX3_takeKey 114 = .ok (.aload_n 0, 1) := by decide +kernel
theorem dX3_takeKey_115 : decode cX3_takeKey 115 = .ok (.getfield 18, 3) := by decide +kernel
theorem dX3_takeKey_118 : decode cX3_takeKey 118 = .ok (.bipush 99, 2) := by decide +kernel
theorem dX3_takeKey_120 : decode cX3_takeKey 120 = .ok (.aload_n 1, 1) := by decide +kernel
theorem dX3_takeKey_121 : decode cX3_takeKey 121 = .ok (.iload_n 2, 1) := by decide +kernel
theorem dX3_takeKey_122 : decode cX3_takeKey 122 = .ok (.bipush 33, 2) := by decide +kernel
theorem dX3_takeKey_124 : decode cX3_takeKey 124 = .ok (.iadd, 1) := by decide +kernel
theorem dX3_takeKey_125 : decode cX3_takeKey 125 = .ok (.invokevirtual 95, 3) := by decide +kernel
theorem dX3_takeKey_128 : decode cX3_takeKey 128 = .ok (.aload_n 0, 1) := by decide +kernel
theorem dX3_takeKey_129 : decode cX3_takeKey 129 = .ok (.getfield 18, 3) := by decide +kernel
theorem dX3_takeKey_132 : decode cX3_takeKey 132 = .ok (.bipush 99, 2) := by decide +kernel
theorem dX3_takeKey_134 : decode cX3_takeKey 134 = .ok (.aload_n 0, 1) := by decide +kernel
theorem dX3_takeKey_135 : decode cX3_takeKey 135 = .ok (.getfield 18, 3) := by decide +kernel
theorem dX3_takeKey_138 : decode cX3_takeKey 138 = .ok (.getfield 132, 3) := by decide +kernel
theorem dX3_takeKey_141 : decode cX3_takeKey 141 = .ok (.invokevirtual 135, 3) := by decide +kernel
theorem dX3_takeKey_144 : decode cX3_takeKey 144 = .ok (.ifCond .ne 52, 3) := by decide +kernel
theorem dX3_takeKey_147 : decode cX3_takeKey 147 = .ok (.iconst 0, 1) := by decide +kernel
theorem dX3_takeKey_148 : decode cX3_takeKey 148 = .ok (.ireturn, 1) := by decide +kernel
theorem dX3_takeKey_149 : decode cX3_takeKey 149 = .ok (.aload_n 0, 1) := by decide +kernel
theorem dX3_takeKey_150 : decode cX3_takeKey 150 = .ok (.bipush 99, 2) := by decide +kernel
theorem dX3_takeKey_152 : decode cX3_takeKey 152 = .ok (.iconst 0, 1) := by decide +kernel
theorem dX3_takeKey_153 : decode cX3_takeKey 153 = .ok (.invokevirtual 142, 3) := by decide +kernel
theorem dX3_takeKey_156 : decode cX3_takeKey 156 = .ok (.aload_n 0, 1) := by decide +kernel
theorem dX3_takeKey_157 : decode cX3_takeKey 157 = .ok (.getfield 18, 3) := by decide +kernel
theorem dX3_takeKey_160 : decode cX3_takeKey 160 = .ok (.getfield 145, 3) := by decide +kernel
theorem dX3_takeKey_163 : decode cX3_takeKey 163 = .ok (.bipush 99, 2) := by decide +kernel
theorem dX3_takeKey_165 : decode cX3_takeKey 165 = .ok (.laload, 1) := by decide +kernel
theorem dX3_takeKey_166 : decode cX3_takeKey 166 = .ok (.lconst 1, 1) := by decide +kernel
theorem dX3_takeKey_167 : decode cX3_takeKey 167 = .ok (.land, 1) := by decide +kernel
theorem dX3_takeKey_168 : decode cX3_takeKey 168 = .ok (.aload_n 1, 1) := by decide +kernel
theorem dX3_takeKey_169 : decode cX3_takeKey 169 = .ok (.iload_n 2, 1) := by decide +kernel
theorem dX3_takeKey_170 : decode cX3_takeKey 170 = .ok (.baload, 1) := by decide +kernel
theorem dX3_takeKey_171 : decode cX3_takeKey 171 = .ok (.iconst 1, 1) := by decide +kernel
theorem dX3_takeKey_172 : decode cX3_takeKey 172 = .ok (.iand, 1) := by decide +kernel
theorem dX3_takeKey_173 : decode cX3_takeKey 173 = .ok (.i2l, 1) := by decide +kernel
theorem dX3_takeKey_174 : decode cX3_takeKey 174 = .ok (.lcmp, 1) := by decide +kernel
theorem dX3_takeKey_175 : decode cX3_takeKey 175 = .ok (.ifCond .eq 21, 3) := by decide +kernel
theorem dX3_takeKey_178 : decode cX3_takeKey 178 = .ok (.aload_n 0, 1) := by decide +kernel
theorem dX3_takeKey_179 : decode cX3_takeKey 179 = .ok (.getfield 18, 3) := by decide +kernel
theorem dX3_takeKey_182 : decode cX3_takeKey 182 = .ok (.bipush 99, 2) := by decide +kernel
theorem dX3_takeKey_184 : decode cX3_takeKey 184 = .ok (.aload_n 0, 1) := by decide +kernel
theorem dX3_takeKey_185 : decode cX3_takeKey 185 = .ok (.getfield 18, 3) := by decide +kernel
theorem dX3_takeKey_188 : decode cX3_takeKey 188 = .ok (.getfield 132, 3) := by decide +kernel
theorem dX3_takeKey_191 : decode cX3_takeKey 191 = .ok (.bipush 99, 2) := by decide +kernel
theorem dX3_takeKey_193 : decode cX3_takeKey 193 = .ok (.invokevirtual 149, 3) := by decide +kernel
theorem dX3_takeKey_196 : decode cX3_takeKey 196 = .ok (.aload_n 0, 1) := by decide +kernel
theorem dX3_takeKey_197 : decode cX3_takeKey 197 = .ok (.bipush 9, 2) := by decide +kernel
theorem dX3_takeKey_199 : decode cX3_takeKey 199 = .ok (.bipush 99, 2) := by decide +kernel
theorem dX3_takeKey_201 : decode cX3_takeKey 201 = .ok (.bipush 99, 2) := by decide +kernel
theorem dX3_takeKey_203 : decode cX3_takeKey 203 = .ok (.invokevirtual 54, 3) := by decide +kernel
theorem dX3_takeKey_206 : decode cX3_takeKey 206 = .ok (.aload_n 0, 1) := by decide +kernel
theorem dX3_takeKey_207 : decode cX3_takeKey 207 = .ok (.getfield 18, 3) := by decide +kernel
theorem dX3_takeKey_210 : decode cX3_takeKey 210 = .ok (.bipush 108, 2) := by decide +kernel
theorem dX3_takeKey_212 : decode cX3_takeKey 212 = .ok (.iconst 1, 1) := by decide +kernel
theorem dX3_takeKey_213 : decode cX3_takeKey 213 = .ok (.invokevirtual 32, 3) := by decide +kernel
theorem dX3_takeKey_216 : decode cX3_takeKey 216 = .ok (.aload_n 0, 1) := by decide +kernel
theorem dX3_takeKey_217 : decode cX3_takeKey 217 = .ok (.getfield 18, 3) := by decide +kernel
theorem dX3_takeKey_220 : decode cX3_takeKey 220 = .ok (.iconst 0, 1) := by decide +kernel
theorem dX3_takeKey_221 : decode cX3_takeKey 221 = .ok (.bipush 9, 2) := by decide +kernel
theorem dX3_takeKey_223 : decode cX3_takeKey 223 = .ok (.invokevirtual 152, 3) := by decide +kernel
theorem dX3_takeKey_226 : decode cX3_takeKey 226 = .ok (.ireturn, 1) := by decide +kernel
abbrev mX3_weigh : ks_M := (RX3, cX3_weigh, 2, (some .boolean), "weigh")
theorem dX3_weigh_0 : decode cX3_weigh 0 = .ok (.aload_n 0, 1) := by decide +kernel
theorem dX3_weigh_1 : decode cX3_weigh 1 = .ok (.getfield 128, 3) := by decide +kernel
theorem dX3_weigh_4 : decode cX3_weigh 4 = .ok (.ifCond .ne 5, 3) := by decide +kernel
theorem dX3_weigh_7 : decode cX3_weigh 7 = .ok (.iconst 0, 1) := by decide +kernel
theorem dX3_weigh_8 : decode cX3_weigh 8 = .ok (.ireturn, 1) := by decide +kernel
theorem dX3_weigh_9 : decode cX3_weigh 9 = .ok (.aload_n 0, 1) := by decide +kernel
theorem dX3_weigh_10 : decode cX3_weigh 10 = .ok (.getfield 25, 3) := by decide +kernel
theorem dX3_weigh_13 : decode cX3_weigh 13 = .ok (.bipush 18, 2) := by decide +kernel
theorem dX3_weigh_15 : decode cX3_weigh 15 = .ok (.aload_n 1, 1) := by decide +kernel
theorem dX3_weigh_16 : decode cX3_weigh 16 = .ok (.iconst 0, 1) := by decide +kernel
theorem dX3_weigh_17 : decode cX3_weigh 17 = .ok (.invokevirtual 95, 3) := by decide +kernel
theorem dX3_weigh_20 : decode cX3_weigh 20 = .ok (.aload_n 0, 1) := by decide +kernel
theorem dX3_weigh_21 : decode cX3_weigh 21 = .ok (.getfield 25, 3) := by decide +kernel
theorem dX3_weigh_24 : decode cX3_weigh 24 = .ok (.bipush 18, 2) := by decide +kernel
theorem dX3_weigh_26 : decode cX3_weigh 26 = .ok (.invokevirtual 98, 3) := by decide +kernel
theorem dX3_weigh_29 : decode cX3_weigh 29 = .ok (.aload_n 0, 1) := by decide +kernel
theorem dX3_weigh_30 : decode cX3_weigh 30 = .ok (.getfield 25, 3) := by decide +kernel
theorem dX3_weigh_33 : decode cX3_weigh 33 = .ok (.bipush 27, 2) := by decide +kernel
theorem dX3_weigh_35 : decode cX3_weigh 35 = .ok (.bipush 18, 2) := by decide +kernel
theorem dX3_weigh_37 : decode cX3_weigh 37 = .ok (.bipush 9, 2) := by decide +kernel
theorem dX3_weigh_39 : decode cX3_weigh 39 = .ok (.invokevirtual 58, 3) := by decide +kernel
theorem dX3_weigh_42 : decode cX3_weigh 42 = .ok (.aload_n 0, 1) := by decide +kernel
theorem dX3_weigh_43 : decode cX3_weigh 43 = .ok (.getfield 25, 3) := by decide +kernel
theorem dX3_weigh_46 : decode cX3_weigh 46 = .ok (.bipush 36, 2) := by decide +kernel
theorem dX3_weigh_48 : decode cX3_weigh 48 = .ok (.iconst 0, 1) := by decide +kernel
theorem dX3_weigh_49 : decode cX3_weigh 49 = .ok (.bipush 9, 2) := by decide +kernel
theorem dX3_weigh_51 : decode cX3_weigh 51 = .ok (.invokevirtual 58, 3) := by decide +kernel
theorem dX3_weigh_54 : decode cX3_weigh 54 = .ok (.iconst 1, 1) := by decide +kernel
theorem dX3_weigh_55 : decode cX3_weigh 55 = .ok (.ireturn, 1) := by decide +kernel
abbrev mX3_fillMultiples : ks_M := (RX3, cX3_fillMultiples, 3, none, "fillMultiples")
theorem dX3_fillMultiples_0 : decode cX3_fillMultiples 0 = .ok (.aload_n 0, 1) := by decide +kernel
theorem dX3_fillMultiples_1 : decode cX3_fillMultiples 1 = .ok (.iload_n 1, 1) := by decide +kernel
theorem dX3_fillMultiples_2 : decode cX3_fillMultiples 2 = .ok (.bipush 27, 2) := by decide +kernel
theorem dX3_fillMultiples_4 : decode cX3_fillMultiples 4 = .ok (.iadd, 1) := by decide +kernel
theorem dX3_fillMultiples_5 : decode cX3_fillMultiples 5 = .ok (.iload_n 1, 1) := by decide +kernel
theorem dX3_fillMultiples_6 : decode cX3_fillMultiples 6 = .ok (.invokevirtual 155, 3) := by decide +kernel
theorem dX3_fillMultiples_9 : decode cX3_fillMultiples 9 = .ok (.iconst 2, 1) := by decide +kernel
theorem dX3_fillMultiples_10 : decode cX3_fillMultiples 10 = .ok (.istore_n 2, 1) := by decide +kernel
theorem dX3_fillMultiples_11 : decode cX3_fillMultiples 11 = .ok (.iload_n 2, 1) := by decide +kernel
theorem dX3_fillMultiples_12 : decode cX3_fillMultiples 12 = .ok (.bipush 15, 2) := by decide +kernel
theorem dX3_fillMultiples_14 : decode cX3_fillMultiples 14 = .ok (.if_icmp .ge 29, 3) := by decide +kernel
theorem dX3_fillMultiples_17 : decode cX3_fillMultiples 17 = .ok (.aload_n 0, 1) := by decide +kernel
theorem dX3_fillMultiples_18 : decode cX3_fillMultiples 18 = .ok (.iload_n 1, 1) := by decide +kernel
theorem dX3_fillMultiples_19 : decode cX3_fillMultiples 19 = .ok (.bipush 27, 2) := by decide +kernel
theorem dX3_fillMultiples_21 : decode cX3_fillMultiples 21 = .ok (.iload_n 2, 1) := by decide +kernel
theorem dX3_fillMultiples_22 : decode cX3_fillMultiples 22 = .ok (.imul, 1) := by decide +kernel
theorem dX3_fillMultiples_23 : decode cX3_fillMultiples 23 = .ok (.iadd, 1) := by decide +kernel
theorem dX3_fillMultiples_24 : decode cX3_fillMultiples 24 = .ok (.iload_n 1, 1) := by decide +kernel
theorem dX3_fillMultiples_25 : decode cX3_fillMultiples 25 = .ok (.bipush 27, 2) := by decide +kernel
theorem dX3_fillMultiples_27 : decode cX3_fillMultiples 27 = .ok (.iload_n 2, 1) := by decide +kernel
theorem dX3_fillMultiples_28 : decode cX3_fillMultiples 28 = .ok (.iconst 1, 1) := by decide +kernel
theorem dX3_fillMultiples_29 : decode cX3_fillMultiples 29 = .ok (.isub, 1) := by decide +kernel
theorem dX3_fillMultiples_30 : decode cX3_fillMultiples 30 = .ok (.imul, 1) := by decide +kernel
theorem dX3_fillMultiples_31 : decode cX3_fillMultiples 31 = .ok (.iadd, 1) := by decide +kernel
theorem dX3_fillMultiples_32 : decode cX3_fillMultiples 32 = .ok (.iload_n 1, 1) := by decide +kernel
theorem dX3_fillMultiples_33 : decode cX3_fillMultiples 33 = .ok (.invokevirtual 158, 3) := by decide +kernel
theorem dX3_fillMultiples_36 : decode cX3_fillMultiples 36 = .ok (.pop, 1) := by decide +kernel
theorem dX3_fillMultiples_37 : decode cX3_fillMultiples 37 = .ok (.iinc 2 1, 3) := by decide +kernel
theorem dX3_fillMultiples_40 : decode cX3_fillMultiples 40 = .ok (.goto (-29), 3) := by decide +kernel
theorem dX3_fillMultiples_43 : decode cX3_fillMultiples 43 = .ok (.return_, 1) := by decide +kernel
abbrev mX3_sum : ks_M := (RX3, cX3_sum, 6, none, "sum")
theorem dX3_sum_0 : decode cX3_sum 0 = .ok (.aload_n 0, 1) := by decide +kernel
theorem dX3_sum_1 : decode cX3_sum 1 = .ok (.getfield 18, 3) := by decide +kernel
theorem dX3_sum_4 : decode cX3_sum 4 = .ok (.bipush 81, 2) := by decide +kernel
theorem dX3_sum_6 : decode cX3_sum 6 = .ok (.iconst 0, 1) := by decide +kernel
theorem dX3_sum_7 : decode cX3_sum 7 = .ok (.invokevirtual 32, 3) := by decide +kernel
theorem dX3_sum_10 : decode cX3_sum 10 = .ok (.iconst 0, 1) := by decide +kernel
theorem dX3_sum_11 : decode cX3_sum 11 = .ok (.istore_n 2, 1) := by decide +kernel
theorem dX3_sum_12 : decode cX3_sum 12 = .ok (.bipush 63, 2) := by decide +kernel
theorem dX3_sum_14 : decode cX3_sum 14 = .ok (.istore_n 3, 1) := by decide +kernel
theorem dX3_sum_15 : decode cX3_sum 15 = .ok (.iload_n 3, 1) := by decide +kernel
theorem dX3_sum_16 : decode cX3_sum 16 = .ok (.ifCond .lt 169, 3) := by decide +kernel
theorem dX3_sum_19 : decode cX3_sum 19 = .ok (.iconst 0, 1) := by decide +kernel
theorem dX3_sum_20 : decode cX3_sum 20 = .ok (.istore 4, 2) := by decide +kernel
theorem dX3_sum_22 : decode cX3_sum 22 = .ok (.iload 4, 2) := by decide +kernel
theorem dX3_sum_24 : decode cX3_sum 24 = .ok (.iconst 4, 1) := by decide +kernel
theorem dX3_sum_25 : decode cX3_sum 25 = .ok (.if_icmp .ge 21, 3) := by decide +kernel
theorem dX3_sum_28 : decode cX3_sum 28 = .ok (.iload_n 2, 1) := by decide +kernel
theorem dX3_sum_29 : decode cX3_sum 29 = .ok (.ifCond .eq 17, 3) := by decide +kernel
theorem dX3_sum_32 : decode cX3_sum 32 = .ok (.aload_n 0, 1) := by decide +kernel
theorem dX3_sum_33 : decode cX3_sum 33 = .ok (.bipush 63, 2) := by decide +kernel
theorem dX3_sum_35 : decode cX3_sum 35 = .ok (.bipush 63, 2) := by decide +kernel
theorem dX3_sum_37 : decode cX3_sum 37 = .ok (.invokevirtual 155, 3) := by decide +kernel
theorem dX3_sum_40 : decode cX3_sum 40 = .ok (.iinc 4 1, 3) := by decide +kernel
theorem dX3_sum_43 : decode cX3_sum 43 = .ok (.goto (-21), 3) := by decide +kernel
theorem dX3_sum_46 : decode cX3_sum 46 = .ok (.aload_n 0, 1) := by decide +kernel
theorem dX3_sum_47 : decode cX3_sum 47 = .ok (.getfield 25, 3) := by decide +kernel
theorem dX3_sum_50 : decode cX3_sum 50 = .ok (.bipush 27, 2) := by decide +kernel
theorem dX3_sum_52 : decode cX3_sum 52 = .ok (.iconst 4, 1) := by decide +kernel
theorem dX3_sum_53 : decode cX3_sum 53 = .ok (.iload_n 3, 1) := by decide +kernel
theorem dX3_sum_54 : decode cX3_sum 54 = .ok (.imul, 1) := by decide +kernel
theorem dX3_sum_55 : decode cX3_sum 55 = .ok (.invokevirtual 162, 3) := by decide +kernel
theorem dX3_sum_58 : decode cX3_sum 58 = .ok (.l2i, 1) := by decide +kernel
theorem dX3_sum_59 : decode cX3_sum 59 = .ok (.bipush 15, 2) := by decide +kernel
theorem dX3_sum_61 : decode cX3_sum 61 = .ok (.iand, 1) := by decide +kernel
theorem dX3_sum_62 : decode cX3_sum 62 = .ok (.istore 4, 2) := by decide +kernel
theorem dX3_sum_64 : decode cX3_sum 64 = .ok (.iload_n 1, 1) := by decide +kernel
theorem dX3_sum_65 : decode cX3_sum 65 = .ok (.ifCond .eq 22, 3) := by decide +kernel
theorem dX3_sum_68 : decode cX3_sum 68 = .ok (.aload_n 0, 1) := by decide +kernel
theorem dX3_sum_69 : decode cX3_sum 69 = .ok (.getfield 25, 3) := by decide +kernel
theorem dX3_sum_72 : decode cX3_sum 72 = .ok (.bipush 36, 2) := by decide +kernel
theorem dX3_sum_74 : decode cX3_sum 74 = .ok (.iconst 4, 1) := by decide +kernel
theorem dX3_sum_75 : decode cX3_sum 75 = .ok (.iload_n 3, 1) := by decide +kernel
theorem dX3_sum_76 : decode cX3_sum 76 = .ok (.imul, 1) := by decide +kernel
theorem dX3_sum_77 : decode cX3_sum 77 = .ok (.invokevirtual 162, 3) := by decide +kernel
theorem dX3_sum_80 : decode cX3_sum 80 = .ok (.l2i, 1) := by decide +kernel
theorem dX3_sum_81 : decode cX3_sum 81 = .ok (.bipush 15, 2) := by decide +kernel
theorem dX3_sum_83 : decode cX3_sum 83 = .ok (.iand, 1) := by decide +kernel
theorem dX3_sum_84 : decode cX3_sum 84 = .ok (.goto 4, 3) := by decide +kernel
theorem dX3_sum_87 : decode cX3_sum 87 = .ok (.iconst 0, 1) := by decide +kernel
theorem dX3_sum_88 : decode cX3_sum 88 = .ok (.istore 5, 2) := by decide +kernel
theorem dX3_sum_90 : decode cX3_sum 90 = .ok (.iload 4, 2) := by decide +kernel
theorem dX3_sum_92 : decode cX3_sum 92 = .ok (.ifCond .le 33, 3) := by decide +kernel
theorem dX3_sum_95 : decode cX3_sum 95 = .ok (.aload_n 0, 1) := by decide +kernel
theorem dX3_sum_96 : decode cX3_sum 96 = .ok (.bipush 63, 2) := by decide +kernel
theorem dX3_sum_98 : decode cX3_sum 98 = .ok (.bipush 63, 2) := by decide +kernel
theorem dX3_sum_100 : decode cX3_sum 100 = .ok (.sipush 495, 3) := by decide +kernel
theorem dX3_sum_103 : decode cX3_sum 103 = .ok (.bipush 27, 2) := by decide +kernel
theorem dX3_sum_105 : decode cX3_sum 105 = .ok (.iload 4, 2) := by decide +kernel
theorem dX3_sum_107 : decode cX3_sum 107 = .ok (.iconst 1, 1) := by decide +kernel
theorem dX3_sum_108 : decode cX3_sum 108 = .ok (.isub, 1) := by decide +kernel
theorem dX3_sum_109 : decode cX3_sum 109 = .ok (.imul, 1) := by decide +kernel
theorem dX3_sum_110 : decode cX3_sum 110 = .ok (.iadd, 1) := by decide +kernel
theorem dX3_sum_111 : decode cX3_sum 111 = .ok (.invokevirtual 158, 3) := by decide +kernel
theorem dX3_sum_114 : decode cX3_sum 114 = .ok (.ifCond .ne 11, 3) := by decide +kernel
theorem dX3_sum_117 : decode cX3_sum 117 = .ok (.aload_n 0, 1) := by decide +kernel
theorem dX3_sum_118 : decode cX3_sum 118 = .ok (.bipush 63, 2) := by decide +kernel
theorem dX3_sum_120 : decode cX3_sum 120 = .ok (.bipush 63, 2) := by decide +kernel
theorem dX3_sum_122 : decode cX3_sum 122 = .ok (.invokevirtual 155, 3) := by decide +kernel
theorem dX3_sum_125 : decode cX3_sum 125 = .ok (.iload 5, 2) := by decide +kernel
theorem dX3_sum_127 : decode cX3_sum 127 = .ok (.ifCond .le 32, 3) := by decide +kernel
theorem dX3_sum_130 : decode cX3_sum 130 = .ok (.aload_n 0, 1) := by decide +kernel
theorem dX3_sum_131 : decode cX3_sum 131 = .ok (.bipush 63, 2) := by decide +kernel
theorem dX3_sum_133 : decode cX3_sum 133 = .ok (.bipush 63, 2) := by decide +kernel
theorem dX3_sum_135 : decode cX3_sum 135 = .ok (.bipush 90, 2) := by decide +kernel
theorem dX3_sum_137 : decode cX3_sum 137 = .ok (.bipush 27, 2) := by decide +kernel
theorem dX3_sum_139 : decode cX3_sum 139 = .ok (.iload 5, 2) := by decide +kernel
theorem dX3_sum_141 : decode cX3_sum 141 = .ok (.iconst 1, 1) := by decide +kernel
theorem dX3_sum_142 : decode cX3_sum 142 = .ok (.isub, 1) := by decide +kernel
theorem dX3_sum_143 : decode cX3_sum 143 = .ok (.imul, 1) := by decide +kernel
theorem dX3_sum_144 : decode cX3_sum 144 = .ok (.iadd, 1) := by decide +kernel
theorem dX3_sum_145 : decode cX3_sum 145 = .ok (.invokevirtual 158, 3) := by decide +kernel
theorem dX3_sum_148 : decode cX3_sum 148 = .ok (.ifCond .ne 11, 3) := by decide +kernel
theorem dX3_sum_151 : decode cX3_sum 151 = .ok (.aload_n 0, 1) := by decide +kernel
theorem dX3_sum_152 : decode cX3_sum 152 = .ok (.bipush 63, 2) := by decide +kernel
theorem dX3_sum_154 : decode cX3_sum 154 = .ok (.bipush 63, 2) := by decide +kernel
theorem dX3_sum_156 : decode cX3_sum 156 = .ok (.invokevirtual 155, 3) := by decide +kernel
theorem dX3_sum_159 : decode cX3_sum 159 = .ok (.iload_n 2, 1) := by decide +kernel
theorem dX3_sum_160 : decode cX3_sum 160 = .ok (.ifCond .ne 13, 3) := by decide +kernel
theorem dX3_sum_163 : decode cX3_sum 163 = .ok (.iload 4, 2) := by decide +kernel
theorem dX3_sum_165 : decode cX3_sum 165 = .ok (.ifCond .gt 8, 3) := by decide +kernel
theorem dX3_sum_168 : decode cX3_sum 168 = .ok (.iload 5, 2) := by decide +kernel
theorem dX3_sum_170 : decode cX3_sum 170 = .ok (.ifCond .le 7, 3) := by decide +kernel
theorem dX3_sum_173 : decode cX3_sum 173 = .ok (.iconst 1, 1) := by decide +kernel
theorem dX3_sum_174 : decode cX3_sum 174 = .ok (.goto 4, 3) := by decide +kernel
theorem dX3_sum_177 : decode cX3_sum 177 = .ok (.iconst 0, 1) := by decide +kernel
theorem dX3_sum_178 : decode cX3_sum 178 = .ok (.istore_n 2, 1) := by decide +kernel
theorem dX3_sum_179 : decode cX3_sum 179 = .ok (.iinc 3 (-1), 3) := by decide +kernel
theorem dX3_sum_182 : decode cX3_sum 182 = .ok (.goto (-167), 3) := by decide +kernel
theorem dX3_sum_185 : decode cX3_sum 185 = .ok (.return_, 1) := by decide +kernel
abbrev mX3_sumHasR : ks_M := (RX3, cX3_sumHasR, 1, (some .boolean), "sumHasR")
theorem dX3_sumHasR_0 : decode cX3_sumHasR 0 = .ok (.aload_n 0, 1) := by decide +kernel
theorem dX3_sumHasR_1 : decode cX3_sumHasR 1 = .ok (.getfield 18, 3) := by decide +kernel
theorem dX3_sumHasR_4 : decode cX3_sumHasR 4 = .ok (.bipush 81, 2) := by decide +kernel
theorem dX3_sumHasR_6 : decode cX3_sumHasR 6 = .ok (.invokevirtual 166, 3) := by decide +kernel
theorem dX3_sumHasR_9 : decode cX3_sumHasR 9 = .ok (.ifCond .eq 5, 3) := by decide +kernel
theorem dX3_sumHasR_12 : decode cX3_sumHasR 12 = .ok (.iconst 0, 1) := by decide +kernel
theorem dX3_sumHasR_13 : decode cX3_sumHasR 13 = .ok (.ireturn, 1) := by decide +kernel
theorem dX3_sumHasR_14 : decode cX3_sumHasR 14 = .ok (.aload_n 0, 1) := by decide +kernel
theorem dX3_sumHasR_15 : decode cX3_sumHasR 15 = .ok (.iconst 0, 1) := by decide +kernel
theorem dX3_sumHasR_16 : decode cX3_sumHasR 16 = .ok (.bipush 81, 2) := by decide +kernel
theorem dX3_sumHasR_18 : decode cX3_sumHasR 18 = .ok (.bipush 81, 2) := by decide +kernel
theorem dX3_sumHasR_20 : decode cX3_sumHasR 20 = .ok (.invokevirtual 54, 3) := by decide +kernel
theorem dX3_sumHasR_23 : decode cX3_sumHasR 23 = .ok (.aload_n 0, 1) := by decide +kernel
theorem dX3_sumHasR_24 : decode cX3_sumHasR 24 = .ok (.getfield 25, 3) := by decide +kernel
theorem dX3_sumHasR_27 : decode cX3_sumHasR 27 = .ok (.getfield 145, 3) := by decide +kernel
theorem dX3_sumHasR_30 : decode cX3_sumHasR 30 = .ok (.iconst 0, 1) := by decide +kernel
theorem dX3_sumHasR_31 : decode cX3_sumHasR 31 = .ok (.aload_n 0, 1) := by decide +kernel
theorem dX3_sumHasR_32 : decode cX3_sumHasR 32 = .ok (.getfield 18, 3) := by decide +kernel
theorem dX3_sumHasR_35 : decode cX3_sumHasR 35 = .ok (.getfield 145, 3) := by decide +kernel
theorem dX3_sumHasR_38 : decode cX3_sumHasR 38 = .ok (.bipush 9, 2) := by decide +kernel
theorem dX3_sumHasR_40 : decode cX3_sumHasR 40 = .ok (.bipush 9, 2) := by decide +kernel
theorem dX3_sumHasR_42 : decode cX3_sumHasR 42 = .ok (.invokestatic 83, 3) := by decide +kernel
theorem dX3_sumHasR_45 : decode cX3_sumHasR 45 = .ok (.aload_n 0, 1) := by decide +kernel
theorem dX3_sumHasR_46 : decode cX3_sumHasR 46 = .ok (.bipush 18, 2) := by decide +kernel
theorem dX3_sumHasR_48 : decode cX3_sumHasR 48 = .ok (.bipush 9, 2) := by decide +kernel
theorem dX3_sumHasR_50 : decode cX3_sumHasR 50 = .ok (.iconst 0, 1) := by decide +kernel
theorem dX3_sumHasR_51 : decode cX3_sumHasR 51 = .ok (.invokevirtual 54, 3) := by decide +kernel
theorem dX3_sumHasR_54 : decode cX3_sumHasR 54 = .ok (.aload_n 0, 1) := by decide +kernel
theorem dX3_sumHasR_55 : decode cX3_sumHasR 55 = .ok (.getfield 18, 3) := by decide +kernel
theorem dX3_sumHasR_58 : decode cX3_sumHasR 58 = .ok (.bipush 18, 2) := by decide +kernel
theorem dX3_sumHasR_60 : decode cX3_sumHasR 60 = .ok (.bipush 63, 2) := by decide +kernel
theorem dX3_sumHasR_62 : decode cX3_sumHasR 62 = .ok (.invokevirtual 152, 3) := by decide +kernel
theorem dX3_sumHasR_65 : decode cX3_sumHasR 65 = .ok (.ifCond .eq 5, 3) := by decide +kernel
theorem dX3_sumHasR_68 : decode cX3_sumHasR 68 = .ok (.iconst 1, 1) := by decide +kernel
theorem dX3_sumHasR_69 : decode cX3_sumHasR 69 = .ok (.ireturn, 1) := by decide +kernel
theorem dX3_sumHasR_70 : decode cX3_sumHasR 70 = .ok (.aload_n 0, 1) := by decide +kernel
theorem dX3_sumHasR_71 : decode cX3_sumHasR 71 = .ok (.getfield 25, 3) := by decide +kernel
theorem dX3_sumHasR_74 : decode cX3_sumHasR 74 = .ok (.getfield 145, 3) := by decide +kernel
theorem dX3_sumHasR_77 : decode cX3_sumHasR 77 = .ok (.aload_n 0, 1) := by decide +kernel
theorem dX3_sumHasR_78 : decode cX3_sumHasR 78 = .ok (.getfield 25, 3) := by decide +kernel
theorem dX3_sumHasR_81 : decode cX3_sumHasR 81 = .ok (.getfield 132, 3) := by decide +kernel
theorem dX3_sumHasR_84 : decode cX3_sumHasR 84 = .ok (.aload_n 0, 1) := by decide +kernel
theorem dX3_sumHasR_85 : decode cX3_sumHasR 85 = .ok (.getfield 18, 3) := by decide +kernel
theorem dX3_sumHasR_88 : decode cX3_sumHasR 88 = .ok (.getfield 145, 3) := by decide +kernel
theorem dX3_sumHasR_91 : decode cX3_sumHasR 91 = .ok (.bipush 27, 2) := by decide +kernel
theorem dX3_sumHasR_93 : decode cX3_sumHasR 93 = .ok (.bipush 9, 2) := by decide +kernel
theorem dX3_sumHasR_95 : decode cX3_sumHasR 95 = .ok (.invokestatic 83, 3) := by decide +kernel
theorem dX3_sumHasR_98 : decode cX3_sumHasR 98 = .ok (.aload_n 0, 1) := by decide +kernel
theorem dX3_sumHasR_99 : decode cX3_sumHasR 99 = .ok (.getfield 18, 3) := by decide +kernel
theorem dX3_sumHasR_102 : decode cX3_sumHasR 102 = .ok (.bipush 36, 2) := by decide +kernel
theorem dX3_sumHasR_104 : decode cX3_sumHasR 104 = .ok (.aload_n 0, 1) := by decide +kernel
theorem dX3_sumHasR_105 : decode cX3_sumHasR 105 = .ok (.getfield 18, 3) := by decide +kernel
theorem dX3_sumHasR_108 : decode cX3_sumHasR 108 = .ok (.getfield 132, 3) := by decide +kernel
theorem dX3_sumHasR_111 : decode cX3_sumHasR 111 = .ok (.bipush 27, 2) := by decide +kernel
theorem dX3_sumHasR_113 : decode cX3_sumHasR 113 = .ok (.invokevirtual 149, 3) := by decide +kernel
theorem dX3_sumHasR_116 : decode cX3_sumHasR 116 = .ok (.aload_n 0, 1) := by decide +kernel
theorem dX3_sumHasR_117 : decode cX3_sumHasR 117 = .ok (.getfield 18, 3) := by decide +kernel
theorem dX3_sumHasR_120 : decode cX3_sumHasR 120 = .ok (.bipush 9, 2) := by decide +kernel
theorem dX3_sumHasR_122 : decode cX3_sumHasR 122 = .ok (.bipush 36, 2) := by decide +kernel
theorem dX3_sumHasR_124 : decode cX3_sumHasR 124 = .ok (.invokevirtual 135, 3) := by decide +kernel
theorem dX3_sumHasR_127 : decode cX3_sumHasR 127 = .ok (.ifCond .ne 5, 3) := by decide +kernel
theorem dX3_sumHasR_130 : decode cX3_sumHasR 130 = .ok (.iconst 0, 1) := by decide +kernel
theorem dX3_sumHasR_131 : decode cX3_sumHasR 131 = .ok (.ireturn, 1) := by decide +kernel
theorem dX3_sumHasR_132 : decode cX3_sumHasR 132 = .ok (.aload_n 0, 1) := by decide +kernel
theorem dX3_sumHasR_133 : decode cX3_sumHasR 133 = .ok (.getfield 18, 3) := by decide +kernel
theorem dX3_sumHasR_136 : decode cX3_sumHasR 136 = .ok (.bipush 9, 2) := by decide +kernel
theorem dX3_sumHasR_138 : decode cX3_sumHasR 138 = .ok (.bipush 9, 2) := by decide +kernel
theorem dX3_sumHasR_140 : decode cX3_sumHasR 140 = .ok (.bipush 27, 2) := by decide +kernel
theorem dX3_sumHasR_142 : decode cX3_sumHasR 142 = .ok (.invokevirtual 139, 3) := by decide +kernel
theorem dX3_sumHasR_145 : decode cX3_sumHasR 145 = .ok (.aload_n 0, 1) := by decide +kernel
theorem dX3_sumHasR_146 : decode cX3_sumHasR 146 = .ok (.bipush 18, 2) := by decide +kernel
theorem dX3_sumHasR_148 : decode cX3_sumHasR 148 = .ok (.bipush 9, 2) := by decide +kernel
theorem dX3_sumHasR_150 : decode cX3_sumHasR 150 = .ok (.iconst 0, 1) := by decide +kernel
theorem dX3_sumHasR_151 : decode cX3_sumHasR 151 = .ok (.invokevirtual 54, 3) := by decide +kernel
theorem dX3_sumHasR_154 : decode cX3_sumHasR 154 = .ok (.aload_n 0, 1) := by decide +kernel
theorem dX3_sumHasR_155 : decode cX3_sumHasR 155 = .ok (.getfield 18, 3) := by decide +kernel
theorem dX3_sumHasR_158 : decode cX3_sumHasR 158 = .ok (.bipush 18, 2) := by decide +kernel
theorem dX3_sumHasR_160 : decode cX3_sumHasR 160 = .ok (.bipush 63, 2) := by decide +kernel
theorem dX3_sumHasR_162 : decode cX3_sumHasR 162 = .ok (.invokevirtual 152, 3) := by decide +kernel
theorem dX3_sumHasR_165 : decode cX3_sumHasR 165 = .ok (.ireturn, 1) := by decide +kernel
abbrev mX3_isDerNumber : ks_M := (RX3, cX3_isDerNumber, 3, (some .boolean), "isDerNumber")
theorem dX3_isDerNumber_0 : decode cX3_isDerNumber 0 = .ok (.aload_n 0, 1) := by decide +kernel
theorem dX3_isDerNumber_1 : decode cX3_isDerNumber 1 = .ok (.iload_n 1, 1) := by decide +kernel
theorem dX3_isDerNumber_2 : decode cX3_isDerNumber 2 = .ok (.baload, 1) := by decide +kernel
theorem dX3_isDerNumber_3 : decode cX3_isDerNumber 3 = .ok (.iconst 2, 1) := by decide +kernel
theorem dX3_isDerNumber_4 : decode cX3_isDerNumber 4 = .ok (.if_icmp .ne 16, 3) := by decide +kernel
theorem dX3_isDerNumber_7 : decode cX3_isDerNumber 7 = .ok (.iload_n 2, 1) := by decide +kernel
theorem dX3_isDerNumber_8 : decode cX3_isDerNumber 8 = .ok (.iconst 1, 1) := by decide +kernel
theorem dX3_isDerNumber_9 : decode cX3_isDerNumber 9 = .ok (.if_icmp .lt 11, 3) := by decide +kernel
theorem dX3_isDerNumber_12 : decode cX3_isDerNumber 12 = .ok (.aload_n 0, 1) := by decide +kernel
theorem dX3_isDerNumber_13 : decode cX3_isDerNumber 13 = .ok (.iload_n 1, 1) := by decide +kernel
theorem dX3_isDerNumber_14 : decode cX3_isDerNumber 14 = .ok (.iconst 2, 1) := by decide +kernel
theorem dX3_isDerNumber_15 : decode cX3_isDerNumber 15 = .ok (.iadd, 1) := by decide +kernel
theorem dX3_isDerNumber_16 : decode cX3_isDerNumber 16 = .ok (.baload, 1) := by decide +kernel
theorem dX3_isDerNumber_17 : decode cX3_isDerNumber 17 = .ok (.ifCond .ge 5, 3) := by decide +kernel
theorem dX3_isDerNumber_20 : decode cX3_isDerNumber 20 = .ok (.iconst 0, 1) := by decide +kernel
theorem dX3_isDerNumber_21 : decode cX3_isDerNumber 21 = .ok (.ireturn, 1) := by decide +kernel
theorem dX3_isDerNumber_22 : decode cX3_isDerNumber 22 = .ok (.iload_n 2, 1) := by decide +kernel
theorem dX3_isDerNumber_23 : decode cX3_isDerNumber 23 = .ok (.iconst 1, 1) := by decide +kernel
theorem dX3_isDerNumber_24 : decode cX3_isDerNumber 24 = .ok (.if_icmp .eq 19, 3) := by decide +kernel
theorem dX3_isDerNumber_27 : decode cX3_isDerNumber 27 = .ok (.aload_n 0, 1) := by decide +kernel
theorem dX3_isDerNumber_28 : decode cX3_isDerNumber 28 = .ok (.iload_n 1, 1) := by decide +kernel
theorem dX3_isDerNumber_29 : decode cX3_isDerNumber 29 = .ok (.iconst 2, 1) := by decide +kernel
theorem dX3_isDerNumber_30 : decode cX3_isDerNumber 30 = .ok (.iadd, 1) := by decide +kernel
theorem dX3_isDerNumber_31 : decode cX3_isDerNumber 31 = .ok (.baload, 1) := by decide +kernel
theorem dX3_isDerNumber_32 : decode cX3_isDerNumber 32 = .ok (.ifCond .ne 11, 3) := by decide +kernel
theorem dX3_isDerNumber_35 : decode cX3_isDerNumber 35 = .ok (.aload_n 0, 1) := by decide +kernel
theorem dX3_isDerNumber_36 : decode cX3_isDerNumber 36 = .ok (.iload_n 1, 1) := by decide +kernel
theorem dX3_isDerNumber_37 : decode cX3_isDerNumber 37 = .ok (.iconst 3, 1) := by decide +kernel
theorem dX3_isDerNumber_38 : decode cX3_isDerNumber 38 = .ok (.iadd, 1) := by decide +kernel
theorem dX3_isDerNumber_39 : decode cX3_isDerNumber 39 = .ok (.baload, 1) := by decide +kernel
theorem dX3_isDerNumber_40 : decode cX3_isDerNumber 40 = .ok (.ifCond .ge 7, 3) := by decide +kernel
theorem dX3_isDerNumber_43 : decode cX3_isDerNumber 43 = .ok (.iconst 1, 1) := by decide +kernel
theorem dX3_isDerNumber_44 : decode cX3_isDerNumber 44 = .ok (.goto 4, 3) := by decide +kernel
theorem dX3_isDerNumber_47 : decode cX3_isDerNumber 47 = .ok (.iconst 0, 1) := by decide +kernel
theorem dX3_isDerNumber_48 : decode cX3_isDerNumber 48 = .ok (.ireturn, 1) := by decide +kernel
abbrev mX3_takeNumber : ks_M := (RX3, cX3_takeNumber, 7, (some .boolean), "takeNumber")
theorem dX3_takeNumber_0 : decode cX3_takeNumber 0 = .ok (.iload 4, 2) := by decide +kernel
theorem dX3_takeNumber_2 : decode cX3_takeNumber 2 = .ok (.bipush 32, 2) := by decide +kernel
theorem dX3_takeNumber_4 : decode cX3_takeNumber 4 = .ok (.if_icmp .le 11, 3) := by decide +kernel
theorem dX3_takeNumber_7 : decode cX3_takeNumber 7 = .ok (.iload 4, 2) := by decide +kernel
theorem dX3_takeNumber_9 : decode cX3_takeNumber 9 = .ok (.bipush 32, 2) := by decide +kernel
theorem dX3_takeNumber_11 : decode cX3_takeNumber 11 = .ok (.isub, 1) := by decide +kernel
theorem dX3_takeNumber_12 : decode cX3_takeNumber 12 = .ok (.goto 4, 3) := by decide +kernel
theorem dX3_takeNumber_15 : decode cX3_takeNumber 15 = .ok (.iconst 0, 1) := by decide +kernel
theorem dX3_takeNumber_16 : decode cX3_takeNumber 16 = .ok (.istore 5, 2) := by decide +kernel
theorem dX3_takeNumber_18 : decode cX3_takeNumber 18 = .ok (.iconst 0, 1) := by decide +kernel
theorem dX3_takeNumber_19 : decode cX3_takeNumber 19 = .ok (.istore 6, 2) := by decide +kernel
theorem dX3_takeNumber_21 : decode cX3_takeNumber 21 = .ok (.iload 6, 2) := by decide +kernel
theorem dX3_takeNumber_23 : decode cX3_takeNumber 23 = .ok (.iload 5, 2) := by decide +kernel
theorem dX3_takeNumber_25 : decode cX3_takeNumber 25 = .ok (.if_icmp .ge 20, 3) := by decide +kernel
theorem dX3_takeNumber_28 : decode cX3_takeNumber 28 = .ok (.aload_n 2, 1) := by decide +kernel
theorem dX3_takeNumber_29 : decode cX3_takeNumber 29 = .ok (.iload_n 3, 1) := by decide +kernel
theorem dX3_takeNumber_30 : decode cX3_takeNumber 30 = .ok (.iload 6, 2) := by decide +kernel
theorem dX3_takeNumber_32 : decode cX3_takeNumber 32 = .ok (.iadd, 1) := by decide +kernel
theorem dX3_takeNumber_33 : decode cX3_takeNumber 33 = .ok (.baload, 1) := by decide +kernel
theorem dX3_takeNumber_34 : decode cX3_takeNumber 34 = .ok (.ifCond .eq 5, 3) := by decide +kernel
theorem dX3_takeNumber_37 : decode cX3_takeNumber 37 = .ok (.iconst 0, 1) := by decide +kernel
theorem dX3_takeNumber_38 : decode cX3_takeNumber 38 = .ok (.ireturn, 1) := by decide +kernel
theorem dX3_takeNumber_39 : decode cX3_takeNumber 39 = .ok (.iinc 6 1, 3) := by decide +kernel
theorem dX3_takeNumber_42 : decode cX3_takeNumber 42 = .ok (.goto (-21), 3) := by decide +kernel
theorem dX3_takeNumber_45 : decode cX3_takeNumber 45 = .ok (.iload 4, 2) := by decide +kernel
theorem dX3_takeNumber_47 : decode cX3_takeNumber 47 = .ok (.iload 5, 2) := by decide +kernel
theorem dX3_takeNumber_49 : decode cX3_takeNumber 49 = .ok (.isub, 1) := by decide +kernel
theorem dX3_takeNumber_50 : decode cX3_takeNumber 50 = .ok (.istore 6, 2) := by decide +kernel
theorem dX3_takeNumber_52 : decode cX3_takeNumber 52 = .ok (.aload_n 0, 1) := by decide +kernel
theorem dX3_takeNumber_53 : decode cX3_takeNumber 53 = .ok (.getfield 28, 3) := by decide +kernel
theorem dX3_takeNumber_56 : decode cX3_takeNumber 56 = .ok (.iconst 0, 1) := by decide +kernel
theorem dX3_takeNumber_57 : decode cX3_takeNumber 57 = .ok (.bipush 32, 2) := by decide +kernel
theorem dX3_takeNumber_59 : decode cX3_takeNumber 59 = .ok (.iconst 0, 1) := by decide +kernel
theorem dX3_takeNumber_60 : decode cX3_takeNumber 60 = .ok (.invokestatic 77, 3) := by decide +kernel
theorem dX3_takeNumber_63 : decode cX3_takeNumber 63 = .ok (.aload_n 2, 1) := by decide +kernel
theorem dX3_takeNumber_64 : decode cX3_takeNumber 64 = .ok (.iload_n 3, 1) := by decide +kernel
theorem dX3_takeNumber_65 : decode cX3_takeNumber 65 = .ok (.iload 5, 2) := by decide +kernel
theorem dX3_takeNumber_67 : decode cX3_takeNumber 67 = .ok (.iadd, 1) := by decide +kernel
theorem dX3_takeNumber_68 : decode cX3_takeNumber 68 = .ok (.aload_n 0, 1) := by decide +kernel
theorem dX3_takeNumber_69 : decode cX3_takeNumber 69 = .ok (.getfield 28, 3) := by decide +kernel
theorem dX3_takeNumber_72 : decode cX3_takeNumber 72 = .ok (.bipush 32, 2) := by decide +kernel
theorem dX3_takeNumber_74 : decode cX3_takeNumber 74 = .ok (.iload 6, 2) := by decide +kernel
theorem dX3_takeNumber_76 : decode cX3_takeNumber 76 = .ok (.isub, 1) := by decide +kernel
theorem dX3_takeNumber_77 : decode cX3_takeNumber 77 = .ok (.iload 6, 2) := by decide +kernel
theorem dX3_takeNumber_79 : decode cX3_takeNumber 79 = .ok (.invokestatic 83, 3) := by decide +kernel
theorem dX3_takeNumber_82 : decode cX3_takeNumber 82 = .ok (.aload_n 0, 1) := by decide +kernel
theorem dX3_takeNumber_83 : decode cX3_takeNumber 83 = .ok (.getfield 25, 3) := by decide +kernel
theorem dX3_takeNumber_86 : decode cX3_takeNumber 86 = .ok (.iload_n 1, 1) := by decide +kernel
theorem dX3_takeNumber_87 : decode cX3_takeNumber 87 = .ok (.aload_n 0, 1) := by decide +kernel
theorem dX3_takeNumber_88 : decode cX3_takeNumber 88 = .ok (.getfield 28, 3) := by decide +kernel
theorem dX3_takeNumber_91 : decode cX3_takeNumber 91 = .ok (.iconst 0, 1) := by decide +kernel
theorem dX3_takeNumber_92 : decode cX3_takeNumber 92 = .ok (.invokevirtual 95, 3) := by decide +kernel
theorem dX3_takeNumber_95 : decode cX3_takeNumber 95 = .ok (.aload_n 0, 1) := by decide +kernel
theorem dX3_takeNumber_96 : decode cX3_takeNumber 96 = .ok (.getfield 25, 3) := by decide +kernel
theorem dX3_takeNumber_99 : decode cX3_takeNumber 99 = .ok (.iload_n 1, 1) := by decide +kernel
theorem dX3_takeNumber_100 : decode cX3_takeNumber 100 = .ok (.invokevirtual 166, 3) := by decide +kernel
theorem dX3_takeNumber_103 : decode cX3_takeNumber 103 = .ok (.ifCond .ne 25, 3) := by decide +kernel
theorem dX3_takeNumber_106 : decode cX3_takeNumber 106 = .ok (.aload_n 0, 1) := by decide +kernel
theorem dX3_takeNumber_107 : decode cX3_takeNumber 107 = .ok (.getfield 25, 3) := by decide +kernel
theorem dX3_takeNumber_110 : decode cX3_takeNumber 110 = .ok (.iload_n 1, 1) := by decide +kernel
theorem dX3_takeNumber_111 : decode cX3_takeNumber 111 = .ok (.aload_n 0, 1) := by decide +kernel
theorem dX3_takeNumber_112 : decode cX3_takeNumber 112 = .ok (.getfield 25, 3) := by decide +kernel
theorem dX3_takeNumber_115 : decode cX3_takeNumber 115 = .ok (.getfield 132, 3) := by decide +kernel
theorem dX3_takeNumber_118 : decode cX3_takeNumber 118 = .ok (.invokevirtual 135, 3) := by decide +kernel
theorem dX3_takeNumber_121 : decode cX3_takeNumber 121 = .ok (.ifCond .eq 7, 3) := by decide +kernel
theorem dX3_takeNumber_124 : decode cX3_takeNumber 124 = .ok (.iconst 1, 1) := by decide +kernel
theorem dX3_takeNumber_125 : decode cX3_takeNumber 125 = .ok (.goto 4, 3) := by decide +kernel
theorem dX3_takeNumber_128 : decode cX3_takeNumber 128 = .ok (.iconst 0, 1) := by decide +kernel
theorem dX3_takeNumber_129 : decode cX3_takeNumber 129 = .ok (.ireturn, 1) := by decide +kernel
abbrev mX3_writeDerNumber : ks_M := (RX3, cX3_writeDerNumber, 5, none, "writeDerNumber")
theorem dX3_writeDerNumber_0 : decode cX3_writeDerNumber 0 = .ok (.aload_n 0, 1) := by decide +kernel
theorem dX3_writeDerNumber_1 : decode cX3_writeDerNumber 1 = .ok (.getfield 25, 3) := by decide +kernel
theorem dX3_writeDerNumber_4 : decode cX3_writeDerNumber 4 = .ok (.iload_n 1, 1) := by decide +kernel
theorem dX3_writeDerNumber_5 : decode cX3_writeDerNumber 5 = .ok (.aload_n 0, 1) := by decide +kernel
theorem dX3_writeDerNumber_6 : decode cX3_writeDerNumber 6 = .ok (.getfield 28, 3) := by decide +kernel
theorem dX3_writeDerNumber_9 : decode cX3_writeDerNumber 9 = .ok (.iconst 0, 1) := by decide +kernel
theorem dX3_writeDerNumber_10 : decode cX3_writeDerNumber 10 = .ok (.invokevirtual 61, 3) := by decide +kernel
theorem dX3_writeDerNumber_13 : decode cX3_writeDerNumber 13 = .ok (.iconst 0, 1) := by decide +kernel
theorem dX3_writeDerNumber_14 : decode cX3_writeDerNumber 14 = .ok (.istore_n 3, 1) := by decide +kernel
theorem dX3_writeDerNumber_15 : decode cX3_writeDerNumber 15 = .ok (.iload_n 3, 1) := by decide +kernel
theorem dX3_writeDerNumber_16 : decode cX3_writeDerNumber 16 = .ok (.bipush 31, 2) := by decide +kernel
theorem dX3_writeDerNumber_18 : decode cX3_writeDerNumber 18 = .ok (.if_icmp .ge 18, 3) := by decide +kernel
theorem dX3_writeDerNumber_21 : decode cX3_writeDerNumber 21 = .ok (.aload_n 0, 1) := by decide +kernel
theorem dX3_writeDerNumber_22 : decode cX3_writeDerNumber 22 = .ok (.getfield 28, 3) := by decide +kernel
theorem dX3_writeDerNumber_25 : decode cX3_writeDerNumber 25 = .ok (.iload_n 3, 1) := by decide +kernel
theorem dX3_writeDerNumber_26 : decode cX3_writeDerNumber 26 = .ok (.baload, 1) := by decide +kernel
theorem dX3_writeDerNumber_27 : decode cX3_writeDerNumber 27 = .ok (.ifCond .ne 9, 3) := by decide +kernel
theorem dX3_writeDerNumber_30 : decode cX3_writeDerNumber 30 = .ok (.iinc 3 1, 3) := by decide +kernel
theorem dX3_writeDerNumber_33 : decode cX3_writeDerNumber 33 = .ok (.goto (-18), 3) := by decide +kernel
theorem dX3_writeDerNumber_36 : decode cX3_writeDerNumber 36 = .ok (.aload_n 0, 1) := by decide +kernel
theorem dX3_writeDerNumber_37 : decode cX3_writeDerNumber 37 = .ok (.getfield 28, 3) := by decide +kernel
theorem dX3_writeDerNumber_40 : decode cX3_writeDerNumber 40 = .ok (.iload_n 3, 1) := by decide +kernel
theorem dX3_writeDerNumber_41 : decode cX3_writeDerNumber 41 = .ok (.baload, 1) := by decide +kernel
theorem dX3_writeDerNumber_42 : decode cX3_writeDerNumber 42 = .ok (.ifCond .ge 7, 3) := by decide +kernel
theorem dX3_writeDerNumber_45 : decode cX3_writeDerNumber 45 = .ok (.iconst 1, 1) := by decide +kernel
theorem dX3_writeDerNumber_46 : decode cX3_writeDerNumber 46 = .ok (.goto 4, 3) := by decide +kernel
theorem dX3_writeDerNumber_49 : decode cX3_writeDerNumber 49 = .ok (.iconst 0, 1) := by decide +kernel
theorem dX3_writeDerNumber_50 : decode cX3_writeDerNumber 50 = .ok (.istore 4, 2) := by decide +kernel
theorem dX3_writeDerNumber_52 : decode cX3_writeDerNumber 52 = .ok (.aload_n 2, 1) := by decide +kernel
theorem dX3_writeDerNumber_53 : decode cX3_writeDerNumber 53 = .ok (.ldc2_w 170, 3) := by decide +kernel
theorem dX3_writeDerNumber_56 : decode cX3_writeDerNumber 56 = .ok (.iconst 1, 1) := by decide +kernel
theorem dX3_writeDerNumber_57 : decode cX3_writeDerNumber 57 = .ok (.invokevirtual 67, 3) := by decide +kernel
theorem dX3_writeDerNumber_60 : decode cX3_writeDerNumber 60 = .ok (.aload_n 2, 1) := by decide +kernel
theorem dX3_writeDerNumber_61 : decode cX3_writeDerNumber 61 = .ok (.bipush 32, 2) := by decide +kernel
theorem dX3_writeDerNumber_63 : decode cX3_writeDerNumber 63 = .ok (.iload_n 3, 1) := by decide +kernel
theorem dX3_writeDerNumber_64 : decode cX3_writeDerNumber 64 = .ok (.isub, 1) := by decide +kernel
theorem dX3_writeDerNumber_65 : decode cX3_writeDerNumber 65 = .ok (.iload 4, 2) := by decide +kernel
theorem dX3_writeDerNumber_67 : decode cX3_writeDerNumber 67 = .ok (.iadd, 1) := by decide +kernel
theorem dX3_writeDerNumber_68 : decode cX3_writeDerNumber 68 = .ok (.i2l, 1) := by decide +kernel
theorem dX3_writeDerNumber_69 : decode cX3_writeDerNumber 69 = .ok (.iconst 1, 1) := by decide +kernel
theorem dX3_writeDerNumber_70 : decode cX3_writeDerNumber 70 = .ok (.invokevirtual 67, 3) := by decide +kernel
theorem dX3_writeDerNumber_73 : decode cX3_writeDerNumber 73 = .ok (.aload_n 2, 1) := by decide +kernel
theorem dX3_writeDerNumber_74 : decode cX3_writeDerNumber 74 = .ok (.lconst 0, 1) := by decide +kernel
theorem dX3_writeDerNumber_75 : decode cX3_writeDerNumber 75 = .ok (.iload 4, 2) := by decide +kernel
theorem dX3_writeDerNumber_77 : decode cX3_writeDerNumber 77 = .ok (.invokevirtual 67, 3) := by decide +kernel
theorem dX3_writeDerNumber_80 : decode cX3_writeDerNumber 80 = .ok (.aload_n 2, 1) := by decide +kernel
theorem dX3_writeDerNumber_81 : decode cX3_writeDerNumber 81 = .ok (.aload_n 0, 1) := by decide +kernel
theorem dX3_writeDerNumber_82 : decode cX3_writeDerNumber 82 = .ok (.getfield 28, 3) := by decide +kernel
theorem dX3_writeDerNumber_85 : decode cX3_writeDerNumber 85 = .ok (.iload_n 3, 1) := by decide +kernel
theorem dX3_writeDerNumber_86 : decode cX3_writeDerNumber 86 = .ok (.bipush 32, 2) := by decide +kernel
theorem dX3_writeDerNumber_88 : decode cX3_writeDerNumber 88 = .ok (.iload_n 3, 1) := by decide +kernel
theorem dX3_writeDerNumber_89 : decode cX3_writeDerNumber 89 = .ok (.isub, 1) := by decide +kernel
theorem dX3_writeDerNumber_90 : decode cX3_writeDerNumber 90 = .ok (.invokevirtual 73, 3) := by decide +kernel
theorem dX3_writeDerNumber_93 : decode cX3_writeDerNumber 93 = .ok (.return_, 1) := by decide +kernel
abbrev mX3_addTimes : ks_M := (RX3, cX3_addTimes, 5, none, "addTimes")
theorem dX3_addTimes_0 : decode cX3_addTimes 0 = .ok (.aload_n 0, 1) := by decide +kernel
theorem dX3_addTimes_1 : decode cX3_addTimes 1 = .ok (.getfield 25, 3) := by decide +kernel
theorem dX3_addTimes_4 : decode cX3_addTimes 4 = .ok (.bipush 18, 2) := by decide +kernel
theorem dX3_addTimes_6 : decode cX3_addTimes 6 = .ok (.iconst 0, 1) := by decide +kernel
theorem dX3_addTimes_7 : decode cX3_addTimes 7 = .ok (.invokevirtual 32, 3) := by decide +kernel
theorem dX3_addTimes_10 : decode cX3_addTimes 10 = .ok (.bipush 30, 2) := by decide +kernel
theorem dX3_addTimes_12 : decode cX3_addTimes 12 = .ok (.istore 4, 2) := by decide +kernel
theorem dX3_addTimes_14 : decode cX3_addTimes 14 = .ok (.iload 4, 2) := by decide +kernel
theorem dX3_addTimes_16 : decode cX3_addTimes 16 = .ok (.ifCond .lt 43, 3) := by decide +kernel
theorem dX3_addTimes_19 : decode cX3_addTimes 19 = .ok (.aload_n 0, 1) := by decide +kernel
theorem dX3_addTimes_20 : decode cX3_addTimes 20 = .ok (.getfield 25, 3) := by decide +kernel
theorem dX3_addTimes_23 : decode cX3_addTimes 23 = .ok (.bipush 18, 2) := by decide +kernel
theorem dX3_addTimes_25 : decode cX3_addTimes 25 = .ok (.bipush 18, 2) := by decide +kernel
theorem dX3_addTimes_27 : decode cX3_addTimes 27 = .ok (.bipush 18, 2) := by decide +kernel
theorem dX3_addTimes_29 : decode cX3_addTimes 29 = .ok (.invokevirtual 139, 3) := by decide +kernel
theorem dX3_addTimes_32 : decode cX3_addTimes 32 = .ok (.iload_n 3, 1) := by decide +kernel
theorem dX3_addTimes_33 : decode cX3_addTimes 33 = .ok (.iload 4, 2) := by decide +kernel
theorem dX3_addTimes_35 : decode cX3_addTimes 35 = .ok (.iushr, 1) := by decide +kernel
theorem dX3_addTimes_36 : decode cX3_addTimes 36 = .ok (.iconst 1, 1) := by decide +kernel
theorem dX3_addTimes_37 : decode cX3_addTimes 37 = .ok (.iand, 1) := by decide +kernel
theorem dX3_addTimes_38 : decode cX3_addTimes 38 = .ok (.ifCond .eq 15, 3) := by decide +kernel
theorem dX3_addTimes_41 : decode cX3_addTimes 41 = .ok (.aload_n 0, 1) := by decide +kernel
theorem dX3_addTimes_42 : decode cX3_addTimes 42 = .ok (.getfield 25, 3) := by decide +kernel
theorem dX3_addTimes_45 : decode cX3_addTimes 45 = .ok (.bipush 18, 2) := by decide +kernel
theorem dX3_addTimes_47 : decode cX3_addTimes 47 = .ok (.bipush 18, 2) := by decide +kernel
theorem dX3_addTimes_49 : decode cX3_addTimes 49 = .ok (.iload_n 2, 1) := by decide +kernel
theorem dX3_addTimes_50 : decode cX3_addTimes 50 = .ok (.invokevirtual 139, 3) := by decide +kernel
theorem dX3_addTimes_53 : decode cX3_addTimes 53 = .ok (.iinc 4 (-1), 3) := by decide +kernel
theorem dX3_addTimes_56 : decode cX3_addTimes 56 = .ok (.goto (-42), 3) := by decide +kernel
theorem dX3_addTimes_59 : decode cX3_addTimes 59 = .ok (.aload_n 0, 1) := by decide +kernel
theorem dX3_addTimes_60 : decode cX3_addTimes 60 = .ok (.getfield 25, 3) := by decide +kernel
theorem dX3_addTimes_63 : decode cX3_addTimes 63 = .ok (.iload_n 1, 1) := by decide +kernel
theorem dX3_addTimes_64 : decode cX3_addTimes 64 = .ok (.iload_n 1, 1) := by decide +kernel
theorem dX3_addTimes_65 : decode cX3_addTimes 65 = .ok (.bipush 18, 2) := by decide +kernel
theorem dX3_addTimes_67 : decode cX3_addTimes 67 = .ok (.invokevirtual 139, 3) := by decide +kernel
theorem dX3_addTimes_70 : decode cX3_addTimes 70 = .ok (.return_, 1) := by decide +kernel
abbrev mX3_takeRoot : ks_M := (RX3, cX3_takeRoot, 4, none, "takeRoot")
theorem dX3_takeRoot_0 : decode cX3_takeRoot 0 = .ok (.aload_n 0, 1) := by decide +kernel
theorem dX3_takeRoot_1 : decode cX3_takeRoot 1 = .ok (.getfield 18, 3) := by decide +kernel
theorem dX3_takeRoot_4 : decode cX3_takeRoot 4 = .ok (.iload_n 1, 1) := by decide +kernel
theorem dX3_takeRoot_5 : decode cX3_takeRoot 5 = .ok (.iconst 1, 1) := by decide +kernel
theorem dX3_takeRoot_6 : decode cX3_takeRoot 6 = .ok (.invokevirtual 32, 3) := by decide +kernel
theorem dX3_takeRoot_9 : decode cX3_takeRoot 9 = .ok (.sipush 255, 3) := by decide +kernel
theorem dX3_takeRoot_12 : decode cX3_takeRoot 12 = .ok (.istore_n 3, 1) := by decide +kernel
theorem dX3_takeRoot_13 : decode cX3_takeRoot 13 = .ok (.iload_n 3, 1) := by decide +kernel
theorem dX3_takeRoot_14 : decode cX3_takeRoot 14 = .ok (.ifCond .lt 44, 3) := by decide +kernel
theorem dX3_takeRoot_17 : decode cX3_takeRoot 17 = .ok (.aload_n 0, 1) := by decide +kernel
theorem dX3_takeRoot_18 : decode cX3_takeRoot 18 = .ok (.iload_n 1, 1) := by decide +kernel
theorem dX3_takeRoot_19 : decode cX3_takeRoot 19 = .ok (.iload_n 1, 1) := by decide +kernel
theorem dX3_takeRoot_20 : decode cX3_takeRoot 20 = .ok (.iload_n 1, 1) := by decide +kernel
theorem dX3_takeRoot_21 : decode cX3_takeRoot 21 = .ok (.invokevirtual 54, 3) := by decide +kernel
theorem dX3_takeRoot_24 : decode cX3_takeRoot 24 = .ok (.getstatic 172, 3) := by decide +kernel
theorem dX3_takeRoot_27 : decode cX3_takeRoot 27 = .ok (.bipush 7, 2) := by decide +kernel
theorem dX3_takeRoot_29 : decode cX3_takeRoot 29 = .ok (.iload_n 3, 1) := by decide +kernel
theorem dX3_takeRoot_30 : decode cX3_takeRoot 30 = .ok (.bipush 32, 2) := by decide +kernel
theorem dX3_takeRoot_32 : decode cX3_takeRoot 32 = .ok (.idiv, 1) := by decide +kernel
theorem dX3_takeRoot_33 : decode cX3_takeRoot 33 = .ok (.isub, 1) := by decide +kernel
theorem dX3_takeRoot_34 : decode cX3_takeRoot 34 = .ok (.iaload, 1) := by decide +kernel
theorem dX3_takeRoot_35 : decode cX3_takeRoot 35 = .ok (.iload_n 3, 1) := by decide +kernel
theorem dX3_takeRoot_36 : decode cX3_takeRoot 36 = .ok (.bipush 32, 2) := by decide +kernel
theorem dX3_takeRoot_38 : decode cX3_takeRoot 38 = .ok (.irem, 1) := by decide +kernel
theorem dX3_takeRoot_39 : decode cX3_takeRoot 39 = .ok (.iushr, 1) := by decide +kernel
theorem dX3_takeRoot_40 : decode cX3_takeRoot 40 = .ok (.iconst 1, 1) := by decide +kernel
theorem dX3_takeRoot_41 : decode cX3_takeRoot 41 = .ok (.iand, 1) := by decide +kernel
theorem dX3_takeRoot_42 : decode cX3_takeRoot 42 = .ok (.ifCond .eq 10, 3) := by decide +kernel
theorem dX3_takeRoot_45 : decode cX3_takeRoot 45 = .ok (.aload_n 0, 1) := by decide +kernel
theorem dX3_takeRoot_46 : decode cX3_takeRoot 46 = .ok (.iload_n 1, 1) := by decide +kernel
theorem dX3_takeRoot_47 : decode cX3_takeRoot 47 = .ok (.iload_n 1, 1) := by decide +kernel
theorem dX3_takeRoot_48 : decode cX3_takeRoot 48 = .ok (.iload_n 2, 1) := by decide +kernel
theorem dX3_takeRoot_49 : decode cX3_takeRoot 49 = .ok (.invokevirtual 54, 3) := by decide +kernel
theorem dX3_takeRoot_52 : decode cX3_takeRoot 52 = .ok (.iinc 3 (-1), 3) := by decide +kernel
theorem dX3_takeRoot_55 : decode cX3_takeRoot 55 = .ok (.goto (-42), 3) := by decide +kernel
theorem dX3_takeRoot_58 : decode cX3_takeRoot 58 = .ok (.return_, 1) := by decide +kernel
abbrev mX3_doublePoint : ks_M := (RX3, cX3_doublePoint, 3, none, "doublePoint")
theorem dX3_doublePoint_0 : decode cX3_doublePoint 0 = .ok (.aload_n 0, 1) := by decide +kernel
theorem dX3_doublePoint_1 : decode cX3_doublePoint 1 = .ok (.iconst 0, 1) := by decide +kernel
theorem dX3_doublePoint_2 : decode cX3_doublePoint 2 = .ok (.iload_n 2, 1) := by decide +kernel
theorem dX3_doublePoint_3 : decode cX3_doublePoint 3 = .ok (.iload_n 2, 1) := by decide +kernel
theorem dX3_doublePoint_4 : decode cX3_doublePoint 4 = .ok (.invokevirtual 54, 3) := by decide +kernel
theorem dX3_doublePoint_7 : decode cX3_doublePoint 7 = .ok (.aload_n 0, 1) := by decide +kernel
theorem dX3_doublePoint_8 : decode cX3_doublePoint 8 = .ok (.getfield 18, 3) := by decide +kernel
theorem dX3_doublePoint_11 : decode cX3_doublePoint 11 = .ok (.bipush 9, 2) := by decide +kernel
theorem dX3_doublePoint_13 : decode cX3_doublePoint 13 = .ok (.iconst 0, 1) := by decide +kernel
theorem dX3_doublePoint_14 : decode cX3_doublePoint 14 = .ok (.iconst 0, 1) := by decide +kernel
theorem dX3_doublePoint_15 : decode cX3_doublePoint 15 = .ok (.invokevirtual 139, 3) := by decide +kernel
theorem dX3_doublePoint_18 : decode cX3_doublePoint 18 = .ok (.aload_n 0, 1) := by decide +kernel
theorem dX3_doublePoint_19 : decode cX3_doublePoint 19 = .ok (.getfield 18, 3) := by decide +kernel
theorem dX3_doublePoint_22 : decode cX3_doublePoint 22 = .ok (.iconst 0, 1) := by decide +kernel
theorem dX3_doublePoint_23 : decode cX3_doublePoint 23 = .ok (.iconst 0, 1) := by decide +kernel
theorem dX3_doublePoint_24 : decode cX3_doublePoint 24 = .ok (.bipush 9, 2) := by decide +kernel
theorem dX3_doublePoint_26 : decode cX3_doublePoint 26 = .ok (.invokevirtual 139, 3) := by decide +kernel
theorem dX3_doublePoint_29 : decode cX3_doublePoint 29 = .ok (.aload_n 0, 1) := by decide +kernel
theorem dX3_doublePoint_30 : decode cX3_doublePoint 30 = .ok (.bipush 9, 2) := by decide +kernel
theorem dX3_doublePoint_32 : decode cX3_doublePoint 32 = .ok (.iload_n 2, 1) := by decide +kernel
theorem dX3_doublePoint_33 : decode cX3_doublePoint 33 = .ok (.bipush 9, 2) := by decide +kernel
theorem dX3_doublePoint_35 : decode cX3_doublePoint 35 = .ok (.iadd, 1) := by decide +kernel
theorem dX3_doublePoint_36 : decode cX3_doublePoint 36 = .ok (.iload_n 2, 1) := by decide +kernel
theorem dX3_doublePoint_37 : decode cX3_doublePoint 37 = .ok (.bipush 9, 2) := by decide +kernel
theorem dX3_doublePoint_39 : decode cX3_doublePoint 39 = .ok (.iadd, 1) := by decide +kernel
theorem dX3_doublePoint_40 : decode cX3_doublePoint 40 = .ok (.invokevirtual 54, 3) := by decide +kernel
theorem dX3_doublePoint_43 : decode cX3_doublePoint 43 = .ok (.aload_n 0, 1) := by decide +kernel
theorem dX3_doublePoint_44 : decode cX3_doublePoint 44 = .ok (.getfield 18, 3) := by decide +kernel
theorem dX3_doublePoint_47 : decode cX3_doublePoint 47 = .ok (.bipush 9, 2) := by decide +kernel
theorem dX3_doublePoint_49 : decode cX3_doublePoint 49 = .ok (.bipush 9, 2) := by decide +kernel
theorem dX3_doublePoint_51 : decode cX3_doublePoint 51 = .ok (.bipush 9, 2) := by decide +kernel
theorem dX3_doublePoint_53 : decode cX3_doublePoint 53 = .ok (.invokevirtual 139, 3) := by decide +kernel
theorem dX3_doublePoint_56 : decode cX3_doublePoint 56 = .ok (.aload_n 0, 1) := by decide +kernel
theorem dX3_doublePoint_57 : decode cX3_doublePoint 57 = .ok (.bipush 18, 2) := by decide +kernel
theorem dX3_doublePoint_59 : decode cX3_doublePoint 59 = .ok (.iload_n 2, 1) := by decide +kernel
theorem dX3_doublePoint_60 : decode cX3_doublePoint 60 = .ok (.bipush 9, 2) := by decide +kernel
theorem dX3_doublePoint_62 : decode cX3_doublePoint 62 = .ok (.invokevirtual 54, 3) := by decide +kernel
theorem dX3_doublePoint_65 : decode cX3_doublePoint 65 = .ok (.aload_n 0, 1) := by decide +kernel
theorem dX3_doublePoint_66 : decode cX3_doublePoint 66 = .ok (.getfield 18, 3) := by decide +kernel
theorem dX3_doublePoint_69 : decode cX3_doublePoint 69 = .ok (.bipush 18, 2) := by decide +kernel
theorem dX3_doublePoint_71 : decode cX3_doublePoint 71 = .ok (.bipush 18, 2) := by decide +kernel
theorem dX3_doublePoint_73 : decode cX3_doublePoint 73 = .ok (.bipush 18, 2) := by decide +kernel
theorem dX3_doublePoint_75 : decode cX3_doublePoint 75 = .ok (.invokevirtual 139, 3) := by decide +kernel
theorem dX3_doublePoint_78 : decode cX3_doublePoint 78 = .ok (.aload_n 0, 1) := by decide +kernel
theorem dX3_doublePoint_79 : decode cX3_doublePoint 79 = .ok (.bipush 27, 2) := by decide +kernel
theorem dX3_doublePoint_81 : decode cX3_doublePoint 81 = .ok (.iload_n 2, 1) := by decide +kernel
theorem dX3_doublePoint_82 : decode cX3_doublePoint 82 = .ok (.bipush 9, 2) := by decide +kernel
theorem dX3_doublePoint_84 : decode cX3_doublePoint 84 = .ok (.iadd, 1) := by decide +kernel
theorem dX3_doublePoint_85 : decode cX3_doublePoint 85 = .ok (.iload_n 2, 1) := by decide +kernel
theorem dX3_doublePoint_86 : decode cX3_doublePoint 86 = .ok (.bipush 18, 2) := by decide +kernel
theorem dX3_doublePoint_88 : decode cX3_doublePoint 88 = .ok (.iadd, 1) := by decide +kernel
theorem dX3_doublePoint_89 : decode cX3_doublePoint 89 = .ok (.invokevirtual 54, 3) := by decide +kernel
theorem dX3_doublePoint_92 : decode cX3_doublePoint 92 = .ok (.aload_n 0, 1) := by decide +kernel
theorem dX3_doublePoint_93 : decode cX3_doublePoint 93 = .ok (.getfield 18, 3) := by decide +kernel
theorem dX3_doublePoint_96 : decode cX3_doublePoint 96 = .ok (.iload_n 1, 1) := by decide +kernel
theorem dX3_doublePoint_97 : decode cX3_doublePoint 97 = .ok (.bipush 18, 2) := by decide +kernel
theorem dX3_doublePoint_99 : decode cX3_doublePoint 99 = .ok (.iadd, 1) := by decide +kernel
theorem dX3_doublePoint_100 : decode cX3_doublePoint 100 = .ok (.bipush 27, 2) := by decide +kernel
theorem dX3_doublePoint_102 : decode cX3_doublePoint 102 = .ok (.bipush 27, 2) := by decide +kernel
theorem dX3_doublePoint_104 : decode cX3_doublePoint 104 = .ok (.invokevirtual 139, 3) := by decide +kernel
theorem dX3_doublePoint_107 : decode cX3_doublePoint 107 = .ok (.aload_n 0, 1) := by decide +kernel
theorem dX3_doublePoint_108 : decode cX3_doublePoint 108 = .ok (.bipush 9, 2) := by decide +kernel
theorem dX3_doublePoint_110 : decode cX3_doublePoint 110 = .ok (.bipush 9, 2) := by decide +kernel
theorem dX3_doublePoint_112 : decode cX3_doublePoint 112 = .ok (.bipush 9, 2) := by decide +kernel
theorem dX3_doublePoint_114 : decode cX3_doublePoint 114 = .ok (.invokevirtual 54, 3) := by decide +kernel
theorem dX3_doublePoint_117 : decode cX3_doublePoint 117 = .ok (.aload_n 0, 1) := by decide +kernel
theorem dX3_doublePoint_118 : decode cX3_doublePoint 118 = .ok (.getfield 18, 3) := by decide +kernel
theorem dX3_doublePoint_121 : decode cX3_doublePoint 121 = .ok (.bipush 9, 2) := by decide +kernel
theorem dX3_doublePoint_123 : decode cX3_doublePoint 123 = .ok (.bipush 9, 2) := by decide +kernel
theorem dX3_doublePoint_125 : decode cX3_doublePoint 125 = .ok (.bipush 9, 2) := by decide +kernel
theorem dX3_doublePoint_127 : decode cX3_doublePoint 127 = .ok (.invokevirtual 139, 3) := by decide +kernel
theorem dX3_doublePoint_130 : decode cX3_doublePoint 130 = .ok (.aload_n 0, 1) := by decide +kernel
theorem dX3_doublePoint_131 : decode cX3_doublePoint 131 = .ok (.bipush 27, 2) := by decide +kernel
theorem dX3_doublePoint_133 : decode cX3_doublePoint 133 = .ok (.iconst 0, 1) := by decide +kernel
theorem dX3_doublePoint_134 : decode cX3_doublePoint 134 = .ok (.iconst 0, 1) := by decide +kernel
theorem dX3_doublePoint_135 : decode cX3_doublePoint 135 = .ok (.invokevirtual 54, 3) := by decide +kernel
theorem dX3_doublePoint_138 : decode cX3_doublePoint 138 = .ok (.aload_n 0, 1) := by decide +kernel
theorem dX3_doublePoint_139 : decode cX3_doublePoint 139 = .ok (.getfield 18, 3) := by decide +kernel
theorem dX3_doublePoint_142 : decode cX3_doublePoint 142 = .ok (.bipush 27, 2) := by decide +kernel
theorem dX3_doublePoint_144 : decode cX3_doublePoint 144 = .ok (.bipush 27, 2) := by decide +kernel
theorem dX3_doublePoint_146 : decode cX3_doublePoint 146 = .ok (.bipush 18, 2) := by decide +kernel
theorem dX3_doublePoint_148 : decode cX3_doublePoint 148 = .ok (.invokevirtual 149, 3) := by decide +kernel
theorem dX3_doublePoint_151 : decode cX3_doublePoint 151 = .ok (.aload_n 0, 1) := by decide +kernel
theorem dX3_doublePoint_152 : decode cX3_doublePoint 152 = .ok (.getfield 18, 3) := by decide +kernel
theorem dX3_doublePoint_155 : decode cX3_doublePoint 155 = .ok (.iload_n 1, 1) := by decide +kernel
theorem dX3_doublePoint_156 : decode cX3_doublePoint 156 = .ok (.bipush 27, 2) := by decide +kernel
theorem dX3_doublePoint_158 : decode cX3_doublePoint 158 = .ok (.bipush 18, 2) := by decide +kernel
theorem dX3_doublePoint_160 : decode cX3_doublePoint 160 = .ok (.invokevirtual 149, 3) := by decide +kernel
theorem dX3_doublePoint_163 : decode cX3_doublePoint 163 = .ok (.aload_n 0, 1) := by decide +kernel
theorem dX3_doublePoint_164 : decode cX3_doublePoint 164 = .ok (.getfield 18, 3) := by decide +kernel
theorem dX3_doublePoint_167 : decode cX3_doublePoint 167 = .ok (.bipush 18, 2) := by decide +kernel
theorem dX3_doublePoint_169 : decode cX3_doublePoint 169 = .ok (.bipush 18, 2) := by decide +kernel
theorem dX3_doublePoint_171 : decode cX3_doublePoint 171 = .ok (.iload_n 1, 1) := by decide +kernel
theorem dX3_doublePoint_172 : decode cX3_doublePoint 172 = .ok (.invokevirtual 149, 3) := by decide +kernel
theorem dX3_doublePoint_175 : decode cX3_doublePoint 175 = .ok (.aload_n 0, 1) := by decide +kernel
theorem dX3_doublePoint_176 : decode cX3_doublePoint 176 = .ok (.bipush 18, 2) := by decide +kernel
theorem dX3_doublePoint_178 : decode cX3_doublePoint 178 = .ok (.bipush 18, 2) := by decide +kernel
theorem dX3_doublePoint_180 : decode cX3_doublePoint 180 = .ok (.iconst 0, 1) := by decide +kernel
theorem dX3_doublePoint_181 : decode cX3_doublePoint 181 = .ok (.invokevirtual 54, 3) := by decide +kernel
theorem dX3_doublePoint_184 : decode cX3_doublePoint 184 = .ok (.aload_n 0, 1) := by decide +kernel
theorem dX3_doublePoint_185 : decode cX3_doublePoint 185 = .ok (.getfield 18, 3) := by decide +kernel
theorem dX3_doublePoint_188 : decode cX3_doublePoint 188 = .ok (.iload_n 1, 1) := by decide +kernel
theorem dX3_doublePoint_189 : decode cX3_doublePoint 189 = .ok (.bipush 9, 2) := by decide +kernel
theorem dX3_doublePoint_191 : decode cX3_doublePoint 191 = .ok (.iadd, 1) := by decide +kernel
theorem dX3_doublePoint_192 : decode cX3_doublePoint 192 = .ok (.bipush 18, 2) := by decide +kernel
theorem dX3_doublePoint_194 : decode cX3_doublePoint 194 = .ok (.bipush 9, 2) := by decide +kernel
theorem dX3_doublePoint_196 : decode cX3_doublePoint 196 = .ok (.invokevirtual 149, 3) := by decide +kernel
theorem dX3_doublePoint_199 : decode cX3_doublePoint 199 = .ok (.return_, 1) := by decide +kernel
abbrev mX3_addPoints : ks_M := (RX3, cX3_addPoints, 4, (some .boolean), "addPoints")
theorem dX3_addPoints_0 : decode cX3_addPoints 0 = .ok (.aload_n 0, 1) := by decide +kernel
theorem dX3_addPoints_1 : decode cX3_addPoints 1 = .ok (.getfield 18, 3) := by decide +kernel
theorem dX3_addPoints_4 : decode cX3_addPoints 4 = .ok (.iload_n 2, 1) := by decide +kernel
theorem dX3_addPoints_5 : decode cX3_addPoints 5 = .ok (.bipush 18, 2) := by decide +kernel
theorem dX3_addPoints_7 : decode cX3_addPoints 7 = .ok (.iadd, 1) := by decide +kernel
theorem dX3_addPoints_8 : decode cX3_addPoints 8 = .ok (.invokevirtual 166, 3) := by decide +kernel
theorem dX3_addPoints_11 : decode cX3_addPoints 11 = .ok (.ifCond .eq 15, 3) := by decide +kernel
theorem dX3_addPoints_14 : decode cX3_addPoints 14 = .ok (.aload_n 0, 1) := by decide +kernel
theorem dX3_addPoints_15 : decode cX3_addPoints 15 = .ok (.getfield 18, 3) := by decide +kernel
theorem dX3_addPoints_18 : decode cX3_addPoints 18 = .ok (.iload_n 1, 1) := by decide +kernel
theorem dX3_addPoints_19 : decode cX3_addPoints 19 = .ok (.iload_n 3, 1) := by decide +kernel
theorem dX3_addPoints_20 : decode cX3_addPoints 20 = .ok (.iconst 3, 1) := by decide +kernel
theorem dX3_addPoints_21 : decode cX3_addPoints 21 = .ok (.invokevirtual 175, 3) := by decide +kernel
theorem dX3_addPoints_24 : decode cX3_addPoints 24 = .ok (.iconst 1, 1) := by decide +kernel
theorem dX3_addPoints_25 : decode cX3_addPoints 25 = .ok (.ireturn, 1) := by decide +kernel
theorem dX3_addPoints_26 : decode cX3_addPoints 26 = .ok (.aload_n 0, 1) := by decide +kernel
theorem dX3_addPoints_27 : decode cX3_addPoints 27 = .ok (.iconst 0, 1) := by decide +kernel
theorem dX3_addPoints_28 : decode cX3_addPoints 28 = .ok (.iload_n 2, 1) := by decide +kernel
theorem dX3_addPoints_29 : decode cX3_addPoints 29 = .ok (.bipush 18, 2) := by decide +kernel
theorem dX3_addPoints_31 : decode cX3_addPoints 31 = .ok (.iadd, 1) := by decide +kernel
theorem dX3_addPoints_32 : decode cX3_addPoints 32 = .ok (.iload_n 2, 1) := by decide +kernel
theorem dX3_addPoints_33 : decode cX3_addPoints 33 = .ok (.bipush 18, 2) := by decide +kernel
theorem dX3_addPoints_35 : decode cX3_addPoints 35 = .ok (.iadd, 1) := by decide +kernel
theorem dX3_addPoints_36 : decode cX3_addPoints 36 = .ok (.invokevirtual 54, 3) := by decide +kernel
theorem dX3_addPoints_39 : decode cX3_addPoints 39 = .ok (.aload_n 0, 1) := by decide +kernel
theorem dX3_addPoints_40 : decode cX3_addPoints 40 = .ok (.bipush 9, 2) := by decide +kernel
theorem dX3_addPoints_42 : decode cX3_addPoints 42 = .ok (.iload_n 3, 1) := by decide +kernel
theorem dX3_addPoints_43 : decode cX3_addPoints 43 = .ok (.bipush 18, 2) := by decide +kernel
theorem dX3_addPoints_45 : decode cX3_addPoints 45 = .ok (.iadd, 1) := by decide +kernel
theorem dX3_addPoints_46 : decode cX3_addPoints 46 = .ok (.iload_n 3, 1) := by decide +kernel
theorem dX3_addPoints_47 : decode cX3_addPoints 47 = .ok (.bipush 18, 2) := by decide +kernel
theorem dX3_addPoints_49 : decode cX3_addPoints 49 = .ok (.iadd, 1) := by decide +kernel
theorem dX3_addPoints_50 : decode cX3_addPoints 50 = .ok (.invokevirtual 54, 3) := by decide +kernel
theorem dX3_addPoints_53 : decode cX3_addPoints 53 = .ok (.aload_n 0, 1) := by decide +kernel
theorem dX3_addPoints_54 : decode cX3_addPoints 54 = .ok (.bipush 18, 2) := by decide +kernel
theorem dX3_addPoints_56 : decode cX3_addPoints 56 = .ok (.iload_n 2, 1) := by decide +kernel
theorem dX3_addPoints_57 : decode cX3_addPoints 57 = .ok (.bipush 9, 2) := by decide +kernel
theorem dX3_addPoints_59 : decode cX3_addPoints 59 = .ok (.invokevirtual 54, 3) := by decide +kernel
theorem dX3_addPoints_62 : decode cX3_addPoints 62 = .ok (.aload_n 0, 1) := by decide +kernel
theorem dX3_addPoints_63 : decode cX3_addPoints 63 = .ok (.bipush 27, 2) := by decide +kernel
theorem dX3_addPoints_65 : decode cX3_addPoints 65 = .ok (.iload_n 3, 1) := by decide +kernel
theorem dX3_addPoints_66 : decode cX3_addPoints 66 = .ok (.iconst 0, 1) := by decide +kernel
theorem dX3_addPoints_67 : decode cX3_addPoints 67 = .ok (.invokevirtual 54, 3) := by decide +kernel
theorem dX3_addPoints_70 : decode cX3_addPoints 70 = .ok (.aload_n 0, 1) := by decide +kernel
theorem dX3_addPoints_71 : decode cX3_addPoints 71 = .ok (.bipush 36, 2) := by decide +kernel
theorem dX3_addPoints_73 : decode cX3_addPoints 73 = .ok (.iload_n 2, 1) := by decide +kernel
theorem dX3_addPoints_74 : decode cX3_addPoints 74 = .ok (.bipush 9, 2) := by decide +kernel
theorem dX3_addPoints_76 : decode cX3_addPoints 76 = .ok (.iadd, 1) := by decide +kernel
theorem dX3_addPoints_77 : decode cX3_addPoints 77 = .ok (.iload_n 3, 1) := by decide +kernel
theorem dX3_addPoints_78 : decode cX3_addPoints 78 = .ok (.bipush 18, 2) := by decide +kernel
theorem dX3_addPoints_80 : decode cX3_addPoints 80 = .ok (.iadd, 1) := by decide +kernel
theorem dX3_addPoints_81 : decode cX3_addPoints 81 = .ok (.invokevirtual 54, 3) := by decide +kernel
theorem dX3_addPoints_84 : decode cX3_addPoints 84 = .ok (.aload_n 0, 1) := by decide +kernel
theorem dX3_addPoints_85 : decode cX3_addPoints 85 = .ok (.bipush 36, 2) := by decide +kernel
theorem dX3_addPoints_87 : decode cX3_addPoints 87 = .ok (.bipush 36, 2) := by decide +kernel
theorem dX3_addPoints_89 : decode cX3_addPoints 89 = .ok (.bipush 9, 2) := by decide +kernel
theorem dX3_addPoints_91 : decode cX3_addPoints 91 = .ok (.invokevirtual 54, 3) := by decide +kernel
theorem dX3_addPoints_94 : decode cX3_addPoints 94 = .ok (.aload_n 0, 1) := by decide +kernel
theorem dX3_addPoints_95 : decode cX3_addPoints 95 = .ok (.bipush 45, 2) := by decide +kernel
theorem dX3_addPoints_97 : decode cX3_addPoints 97 = .ok (.iload_n 3, 1) := by decide +kernel
theorem dX3_addPoints_98 : decode cX3_addPoints 98 = .ok (.bipush 9, 2) := by decide +kernel
theorem dX3_addPoints_100 : decode cX3_addPoints 100 = .ok (.iadd, 1) := by decide +kernel
theorem dX3_addPoints_101 : decode cX3_addPoints 101 = .ok (.iload_n 2, 1) := by decide +kernel
theorem dX3_addPoints_102 : decode cX3_addPoints 102 = .ok (.bipush 18, 2) := by decide +kernel
theorem dX3_addPoints_104 : decode cX3_addPoints 104 = .ok (.iadd, 1) := by decide +kernel
theorem dX3_addPoints_105 : decode cX3_addPoints 105 = .ok (.invokevirtual 54, 3) := by decide +kernel
theorem dX3_addPoints_108 : decode cX3_addPoints 108 = .ok (.aload_n 0, 1) := by decide +kernel
theorem dX3_addPoints_109 : decode cX3_addPoints 109 = .ok (.bipush 45, 2) := by decide +kernel
theorem dX3_addPoints_111 : decode cX3_addPoints 111 = .ok (.bipush 45, 2) := by decide +kernel
theorem dX3_addPoints_113 : decode cX3_addPoints 113 = .ok (.iconst 0, 1) := by decide +kernel
theorem dX3_addPoints_114 : decode cX3_addPoints 114 = .ok (.invokevirtual 54, 3) := by decide +kernel
theorem dX3_addPoints_117 : decode cX3_addPoints 117 = .ok (.aload_n 0, 1) := by decide +kernel
theorem dX3_addPoints_118 : decode cX3_addPoints 118 = .ok (.getfield 18, 3) := by decide +kernel
theorem dX3_addPoints_121 : decode cX3_addPoints 121 = .ok (.bipush 27, 2) := by decide +kernel
theorem dX3_addPoints_123 : decode cX3_addPoints 123 = .ok (.bipush 27, 2) := by decide +kernel
theorem dX3_addPoints_125 : decode cX3_addPoints 125 = .ok (.bipush 18, 2) := by decide +kernel
theorem dX3_addPoints_127 : decode cX3_addPoints 127 = .ok (.invokevirtual 149, 3) := by decide +kernel
theorem dX3_addPoints_130 : decode cX3_addPoints 130 = .ok (.aload_n 0, 1) := by decide +kernel
theorem dX3_addPoints_131 : decode cX3_addPoints 131 = .ok (.getfield 18, 3) := by decide +kernel
theorem dX3_addPoints_134 : decode cX3_addPoints 134 = .ok (.bipush 45, 2) := by decide +kernel
theorem dX3_addPoints_136 : decode cX3_addPoints 136 = .ok (.bipush 45, 2) := by decide +kernel
theorem dX3_addPoints_138 : decode cX3_addPoints 138 = .ok (.bipush 36, 2) := by decide +kernel
theorem dX3_addPoints_140 : decode cX3_addPoints 140 = .ok (.invokevirtual 149, 3) := by decide +kernel
theorem dX3_addPoints_143 : decode cX3_addPoints 143 = .ok (.aload_n 0, 1) := by decide +kernel
theorem dX3_addPoints_144 : decode cX3_addPoints 144 = .ok (.getfield 18, 3) := by decide +kernel
theorem dX3_addPoints_147 : decode cX3_addPoints 147 = .ok (.bipush 27, 2) := by decide +kernel
theorem dX3_addPoints_149 : decode cX3_addPoints 149 = .ok (.invokevirtual 166, 3) := by decide +kernel
theorem dX3_addPoints_152 : decode cX3_addPoints 152 = .ok (.ifCond .eq 17, 3) := by decide +kernel
theorem dX3_addPoints_155 : decode cX3_addPoints 155 = .ok (.aload_n 0, 1) := by decide +kernel
theorem dX3_addPoints_156 : decode cX3_addPoints 156 = .ok (.getfield 18, 3) := by decide +kernel
theorem dX3_addPoints_159 : decode cX3_addPoints 159 = .ok (.bipush 45, 2) := by decide +kernel
theorem dX3_addPoints_161 : decode cX3_addPoints 161 = .ok (.invokevirtual 166, 3) := by decide +kernel
theorem dX3_addPoints_164 : decode cX3_addPoints 164 = .ok (.ifCond .eq 5, 3) := by decide +kernel
theorem dX3_addPoints_167 : decode cX3_addPoints 167 = .ok (.iconst 0, 1) := by decide +kernel
theorem dX3_addPoints_168 : decode cX3_addPoints 168 = .ok (.ireturn, 1) := by decide +kernel
theorem dX3_addPoints_169 : decode cX3_addPoints 169 = .ok (.aload_n 0, 1) := by decide +kernel
theorem dX3_addPoints_170 : decode cX3_addPoints 170 = .ok (.iconst 0, 1) := by decide +kernel
theorem dX3_addPoints_171 : decode cX3_addPoints 171 = .ok (.iload_n 2, 1) := by decide +kernel
theorem dX3_addPoints_172 : decode cX3_addPoints 172 = .ok (.bipush 18, 2) := by decide +kernel
theorem dX3_addPoints_174 : decode cX3_addPoints 174 = .ok (.iadd, 1) := by decide +kernel
theorem dX3_addPoints_175 : decode cX3_addPoints 175 = .ok (.iload_n 3, 1) := by decide +kernel
theorem dX3_addPoints_176 : decode cX3_addPoints 176 = .ok (.bipush 18, 2) := by decide +kernel
theorem dX3_addPoints_178 : decode cX3_addPoints 178 = .ok (.iadd, 1) := by decide +kernel
theorem dX3_addPoints_179 : decode cX3_addPoints 179 = .ok (.invokevirtual 54, 3) := by decide +kernel
theorem dX3_addPoints_182 : decode cX3_addPoints 182 = .ok (.aload_n 0, 1) := by decide +kernel
theorem dX3_addPoints_183 : decode cX3_addPoints 183 = .ok (.iload_n 1, 1) := by decide +kernel
theorem dX3_addPoints_184 : decode cX3_addPoints 184 = .ok (.bipush 18, 2) := by decide +kernel
theorem dX3_addPoints_186 : decode cX3_addPoints 186 = .ok (.iadd, 1) := by decide +kernel
theorem dX3_addPoints_187 : decode cX3_addPoints 187 = .ok (.iconst 0, 1) := by decide +kernel
theorem dX3_addPoints_188 : decode cX3_addPoints 188 = .ok (.bipush 27, 2) := by decide +kernel
theorem dX3_addPoints_190 : decode cX3_addPoints 190 = .ok (.invokevirtual 54, 3) := by decide +kernel
theorem dX3_addPoints_193 : decode cX3_addPoints 193 = .ok (.aload_n 0, 1) := by decide +kernel
theorem dX3_addPoints_194 : decode cX3_addPoints 194 = .ok (.iconst 0, 1) := by decide +kernel
theorem dX3_addPoints_195 : decode cX3_addPoints 195 = .ok (.bipush 27, 2) := by decide +kernel
theorem dX3_addPoints_197 : decode cX3_addPoints 197 = .ok (.bipush 27, 2) := by decide +kernel
theorem dX3_addPoints_199 : decode cX3_addPoints 199 = .ok (.invokevirtual 54, 3) := by decide +kernel
theorem dX3_addPoints_202 : decode cX3_addPoints 202 = .ok (.aload_n 0, 1) := by decide +kernel
theorem dX3_addPoints_203 : decode cX3_addPoints 203 = .ok (.bipush 9, 2) := by decide +kernel
theorem dX3_addPoints_205 : decode cX3_addPoints 205 = .ok (.iconst 0, 1) := by decide +kernel
theorem dX3_addPoints_206 : decode cX3_addPoints 206 = .ok (.bipush 27, 2) := by decide +kernel
theorem dX3_addPoints_208 : decode cX3_addPoints 208 = .ok (.invokevirtual 54, 3) := by decide +kernel
theorem dX3_addPoints_211 : decode cX3_addPoints 211 = .ok (.aload_n 0, 1) := by decide +kernel
theorem dX3_addPoints_212 : decode cX3_addPoints 212 = .ok (.bipush 18, 2) := by decide +kernel
theorem dX3_addPoints_214 : decode cX3_addPoints 214 = .ok (.bipush 18, 2) := by decide +kernel
theorem dX3_addPoints_216 : decode cX3_addPoints 216 = .ok (.iconst 0, 1) := by decide +kernel
theorem dX3_addPoints_217 : decode cX3_addPoints 217 = .ok (.invokevirtual 54, 3) := by decide +kernel
theorem dX3_addPoints_220 : decode cX3_addPoints 220 = .ok (.aload_n 0, 1) := by decide +kernel
theorem dX3_addPoints_221 : decode cX3_addPoints 221 = .ok (.iconst 0, 1) := by decide +kernel
theorem dX3_addPoints_222 : decode cX3_addPoints 222 = .ok (.bipush 45, 2) := by decide +kernel
theorem dX3_addPoints_224 : decode cX3_addPoints 224 = .ok (.bipush 45, 2) := by decide +kernel
theorem dX3_addPoints_226 : decode cX3_addPoints 226 = .ok (.invokevirtual 54, 3) := by decide +kernel
theorem dX3_addPoints_229 : decode cX3_addPoints 229 = .ok (.aload_n 0, 1) := by decide +kernel
theorem dX3_addPoints_230 : decode cX3_addPoints 230 = .ok (.getfield 18, 3) := by decide +kernel
theorem dX3_addPoints_233 : decode cX3_addPoints 233 = .ok (.iconst 0, 1) := by decide +kernel
theorem dX3_addPoints_234 : decode cX3_addPoints 234 = .ok (.iconst 0, 1) := by decide +kernel
theorem dX3_addPoints_235 : decode cX3_addPoints 235 = .ok (.bipush 9, 2) := by decide +kernel
theorem dX3_addPoints_237 : decode cX3_addPoints 237 = .ok (.invokevirtual 149, 3) := by decide +kernel
theorem dX3_addPoints_240 : decode cX3_addPoints 240 = .ok (.aload_n 0, 1) := by decide +kernel
theorem dX3_addPoints_241 : decode cX3_addPoints 241 = .ok (.getfield 18, 3) := by decide +kernel
theorem dX3_addPoints_244 : decode cX3_addPoints 244 = .ok (.iconst 0, 1) := by decide +kernel
theorem dX3_addPoints_245 : decode cX3_addPoints 245 = .ok (.iconst 0, 1) := by decide +kernel
theorem dX3_addPoints_246 : decode cX3_addPoints 246 = .ok (.bipush 18, 2) := by decide +kernel
theorem dX3_addPoints_248 : decode cX3_addPoints 248 = .ok (.invokevirtual 149, 3) := by decide +kernel
theorem dX3_addPoints_251 : decode cX3_addPoints 251 = .ok (.aload_n 0, 1) := by decide +kernel
theorem dX3_addPoints_252 : decode cX3_addPoints 252 = .ok (.getfield 18, 3) := by decide +kernel
theorem dX3_addPoints_255 : decode cX3_addPoints 255 = .ok (.iload_n 1, 1) := by decide +kernel
theorem dX3_addPoints_256 : decode cX3_addPoints 256 = .ok (.iconst 0, 1) := by decide +kernel
theorem dX3_addPoints_257 : decode cX3_addPoints 257 = .ok (.bipush 18, 2) := by decide +kernel
theorem dX3_addPoints_259 : decode cX3_addPoints 259 = .ok (.invokevirtual 149, 3) := by decide +kernel
theorem dX3_addPoints_262 : decode cX3_addPoints 262 = .ok (.aload_n 0, 1) := by decide +kernel
theorem dX3_addPoints_263 : decode cX3_addPoints 263 = .ok (.getfield 18, 3) := by decide +kernel
theorem dX3_addPoints_266 : decode cX3_addPoints 266 = .ok (.bipush 18, 2) := by decide +kernel
theorem dX3_addPoints_268 : decode cX3_addPoints 268 = .ok (.bipush 18, 2) := by decide +kernel
theorem dX3_addPoints_270 : decode cX3_addPoints 270 = .ok (.iload_n 1, 1) := by decide +kernel
theorem dX3_addPoints_271 : decode cX3_addPoints 271 = .ok (.invokevirtual 149, 3) := by decide +kernel
theorem dX3_addPoints_274 : decode cX3_addPoints 274 = .ok (.aload_n 0, 1) := by decide +kernel
theorem dX3_addPoints_275 : decode cX3_addPoints 275 = .ok (.bipush 18, 2) := by decide +kernel
theorem dX3_addPoints_277 : decode cX3_addPoints 277 = .ok (.bipush 18, 2) := by decide +kernel
theorem dX3_addPoints_279 : decode cX3_addPoints 279 = .ok (.bipush 45, 2) := by decide +kernel
theorem dX3_addPoints_281 : decode cX3_addPoints 281 = .ok (.invokevirtual 54, 3) := by decide +kernel
theorem dX3_addPoints_284 : decode cX3_addPoints 284 = .ok (.aload_n 0, 1) := by decide +kernel
theorem dX3_addPoints_285 : decode cX3_addPoints 285 = .ok (.bipush 36, 2) := by decide +kernel
theorem dX3_addPoints_287 : decode cX3_addPoints 287 = .ok (.bipush 36, 2) := by decide +kernel
theorem dX3_addPoints_289 : decode cX3_addPoints 289 = .ok (.bipush 9, 2) := by decide +kernel
theorem dX3_addPoints_291 : decode cX3_addPoints 291 = .ok (.invokevirtual 54, 3) := by decide +kernel
theorem dX3_addPoints_294 : decode cX3_addPoints 294 = .ok (.aload_n 0, 1) := by decide +kernel
theorem dX3_addPoints_295 : decode cX3_addPoints 295 = .ok (.getfield 18, 3) := by decide +kernel
theorem dX3_addPoints_298 : decode cX3_addPoints 298 = .ok (.iload_n 1, 1) := by decide +kernel
theorem dX3_addPoints_299 : decode cX3_addPoints 299 = .ok (.bipush 9, 2) := by decide +kernel
theorem dX3_addPoints_301 : decode cX3_addPoints 301 = .ok (.iadd, 1) := by decide +kernel
theorem dX3_addPoints_302 : decode cX3_addPoints 302 = .ok (.bipush 18, 2) := by decide +kernel
theorem dX3_addPoints_304 : decode cX3_addPoints 304 = .ok (.bipush 36, 2) := by decide +kernel
theorem dX3_addPoints_306 : decode cX3_addPoints 306 = .ok (.invokevirtual 149, 3) := by decide +kernel
theorem dX3_addPoints_309 : decode cX3_addPoints 309 = .ok (.iconst 1, 1) := by decide +kernel
theorem dX3_addPoints_310 : decode cX3_addPoints 310 = .ok (.ireturn, 1) := by decide +kernel
abbrev mX3_multiply : ks_M := (RX3, cX3_multiply, 85, none, "multiply")
theorem dX3_multiply_0 : decode cX3_multiply 0 = .ok (.aload_n 0, 1) := by decide +kernel
theorem dX3_multiply_1 : decode cX3_multiply 1 = .ok (.getfield 18, 3) := by decide +kernel
theorem dX3_multiply_4 : decode cX3_multiply 4 = .ok (.getfield 145, 3) := by decide +kernel
theorem dX3_multiply_7 : decode cX3_multiply 7 = .ok (.astore 4, 2) := by decide +kernel
theorem dX3_multiply_9 : decode cX3_multiply 9 = .ok (.aload 4, 2) := by decide +kernel
theorem dX3_multiply_11 : decode cX3_multiply 11 = .ok (.iload_n 2, 1) := by decide +kernel
theorem dX3_multiply_12 : decode cX3_multiply 12 = .ok (.laload, 1) := by decide +kernel
theorem dX3_multiply_13 : decode cX3_multiply 13 = .ok (.lstore 5, 2) := by decide +kernel
theorem dX3_multiply_15 : decode cX3_multiply 15 = .ok (.aload 4, 2) := by decide +kernel
theorem dX3_multiply_17 : decode cX3_multiply 17 = .ok (.iload_n 2, 1) := by decide +kernel
theorem dX3_multiply_18 : decode cX3_multiply 18 = .ok (.iconst 1, 1) := by decide +kernel
theorem dX3_multiply_19 : decode cX3_multiply 19 = .ok (.iadd, 1) := by decide +kernel
theorem dX3_multiply_20 : decode cX3_multiply 20 = .ok (.laload, 1) := by decide +kernel
theorem dX3_multiply_21 : decode cX3_multiply 21 = .ok (.lstore 7, 2) := by decide +kernel
theorem dX3_multiply_23 : decode cX3_multiply 23 = .ok (.aload 4, 2) := by decide +kernel
theorem dX3_multiply_25 : decode cX3_multiply 25 = .ok (.iload_n 2, 1) := by decide +kernel
theorem dX3_multiply_26 : decode cX3_multiply 26 = .ok (.iconst 2, 1) := by decide +kernel
theorem dX3_multiply_27 : decode cX3_multiply 27 = .ok (.iadd, 1) := by decide +kernel
theorem dX3_multiply_28 : decode cX3_multiply 28 = .ok (.laload, 1) := by decide +kernel
theorem dX3_multiply_29 : decode cX3_multiply 29 = .ok (.lstore 9, 2) := by decide +kernel
theorem dX3_multiply_31 : decode cX3_multiply 31 = .ok (.aload 4, 2) := by decide +kernel
theorem dX3_multiply_33 : decode cX3_multiply 33 = .ok (.iload_n 2, 1) := by decide +kernel
theorem dX3_multiply_34 : decode cX3_multiply 34 = .ok (.iconst 3, 1) := by decide +kernel
theorem dX3_multiply_35 : decode cX3_multiply 35 = .ok (.iadd, 1) := by decide +kernel
theorem dX3_multiply_36 : decode cX3_multiply 36 = .ok (.laload, 1) := by decide +kernel
theorem dX3_multiply_37 : decode cX3_multiply 37 = .ok (.lstore 11, 2) := by decide +kernel
theorem dX3_multiply_39 : decode cX3_multiply 39 = .ok (.aload 4, 2) := by decide +kernel
theorem dX3_multiply_41 : decode cX3_multiply 41 = .ok (.iload_n 2, 1) := by decide +kernel
theorem dX3_multiply_42 : decode cX3_multiply 42 = .ok (.iconst 4, 1) := by decide +kernel
theorem dX3_multiply_43 : decode cX3_multiply 43 = .ok (.iadd, 1) := by decide +kernel
theorem dX3_multiply_44 : decode cX3_multiply 44 = .ok (.laload, 1) := by decide +kernel
theorem dX3_multiply_45 : decode cX3_multiply 45 = .ok (.lstore 13, 2) := by decide +kernel
theorem dX3_multiply_47 : decode cX3_multiply 47 = .ok (.aload 4, 2) := by decide +kernel
theorem dX3_multiply_49 : decode cX3_multiply 49 = .ok (.iload_n 2, 1) := by decide +kernel
theorem dX3_multiply_50 : decode cX3_multiply 50 = .ok (.iconst 5, 1) := by decide +kernel
theorem dX3_multiply_51 : decode cX3_multiply 51 = .ok (.iadd, 1) := by decide +kernel
theorem dX3_multiply_52 : decode cX3_multiply 52 = .ok (.laload, 1) := by decide +kernel
theorem dX3_multiply_53 : decode cX3_multiply 53 = .ok (.lstore 15, 2) := by decide +kernel
theorem dX3_multiply_55 : decode cX3_multiply 55 = .ok (.aload 4, 2) := by decide +kernel
theorem dX3_multiply_57 : decode cX3_multiply 57 = .ok (.iload_n 2, 1) := by decide +kernel
theorem dX3_multiply_58 : decode cX3_multiply 58 = .ok (.bipush 6, 2) := by decide +kernel
theorem dX3_multiply_60 : decode cX3_multiply 60 = .ok (.iadd, 1) := by decide +kernel
theorem dX3_multiply_61 : decode cX3_multiply 61 = .ok (.laload, 1) := by decide +kernel
theorem dX3_multiply_62 : decode cX3_multiply 62 = .ok (.lstore 17, 2) := by decide +kernel
theorem dX3_multiply_64 : decode cX3_multiply 64 = .ok (.aload 4, 2) := by decide +kernel
theorem dX3_multiply_66 : decode cX3_multiply 66 = .ok (.iload_n 2, 1) := by decide +kernel
theorem dX3_multiply_67 : decode cX3_multiply 67 = .ok (.bipush 7, 2) := by decide +kernel
theorem dX3_multiply_69 : decode cX3_multiply 69 = .ok (.iadd, 1) := by decide +kernel
theorem dX3_multiply_70 : decode cX3_multiply 70 = .ok (.laload, 1) := by decide +kernel
theorem dX3_multiply_71 : decode cX3_multiply 71 = .ok (.lstore 19, 2) := by decide +kernel
theorem dX3_multiply_73 : decode cX3_multiply 73 = .ok (.aload 4, 2) := by decide +kernel
theorem dX3_multiply_75 : decode cX3_multiply 75 = .ok (.iload_n 2, 1) := by decide +kernel
theorem dX3_multiply_76 : decode cX3_multiply 76 = .ok (.bipush 8, 2) := by decide +kernel
theorem dX3_multiply_78 : decode cX3_multiply 78 = .ok (.iadd, 1) := by decide +kernel
theorem dX3_multiply_79 : decode cX3_multiply 79 = .ok (.laload, 1) := by decide +kernel
theorem dX3_multiply_80 : decode cX3_multiply 80 = .ok (.lstore 21, 2) := by decide +kernel
theorem dX3_multiply_82 : decode cX3_multiply 82 = .ok (.aload 4, 2) := by decide +kernel
theorem dX3_multiply_84 : decode cX3_multiply 84 = .ok (.iload_n 3, 1) := by decide +kernel
theorem dX3_multiply_85 : decode cX3_multiply 85 = .ok (.laload, 1) := by decide +kernel
theorem dX3_multiply_86 : decode cX3_multiply 86 = .ok (.lstore 23, 2) := by decide +kernel
theorem dX3_multiply_88 : decode cX3_multiply 88 = .ok (.aload 4, 2) := by decide +kernel
theorem dX3_multiply_90 : decode cX3_multiply 90 = .ok (.iload_n 3, 1) := by decide +kernel
theorem dX3_multiply_91 : decode cX3_multiply 91 = .ok (.iconst 1, 1) := by decide +kernel
theorem dX3_multiply_92 : decode cX3_multiply 92 = .ok (.iadd, 1) := by decide +kernel
theorem dX3_multiply_93 : decode cX3_multiply 93 = .ok (.laload, 1) := by decide +kernel
theorem dX3_multiply_94 : decode cX3_multiply 94 = .ok (.lstore 25, 2) := by decide +kernel
theorem dX3_multiply_96 : decode cX3_multiply 96 = .ok (.aload 4, 2) := by decide +kernel
theorem dX3_multiply_98 : decode cX3_multiply 98 = .ok (.iload_n 3, 1) := by decide +kernel
theorem dX3_multiply_99 : decode cX3_multiply 99 = .ok (.iconst 2, 1) := by decide +kernel
theorem dX3_multiply_100 : decode cX3_multiply 100 = .ok (.iadd, 1) := by decide +kernel
theorem dX3_multiply_101 : decode cX3_multiply 101 = .ok (.laload, 1) := by decide +kernel
theorem dX3_multiply_102 : decode cX3_multiply 102 = .ok (.lstore 27, 2) := by decide +kernel
theorem dX3_multiply_104 : decode cX3_multiply 104 = .ok (.aload 4, 2) := by decide +kernel
theorem dX3_multiply_106 : decode cX3_multiply 106 = .ok (.iload_n 3, 1) := by decide +kernel
theorem dX3_multiply_107 : decode cX3_multiply 107 = .ok (.iconst 3, 1) := by decide +kernel
theorem dX3_multiply_108 : decode cX3_multiply 108 = .ok (.iadd, 1) := by decide +kernel
theorem dX3_multiply_109 : decode cX3_multiply 109 = .ok (.laload, 1) := by decide +kernel
theorem dX3_multiply_110 : decode cX3_multiply 110 = .ok (.lstore 29, 2) := by decide +kernel
theorem dX3_multiply_112 : decode cX3_multiply 112 = .ok (.aload 4, 2) := by decide +kernel
theorem dX3_multiply_114 : decode cX3_multiply 114 = .ok (.iload_n 3, 1) := by decide +kernel
theorem dX3_multiply_115 : decode cX3_multiply 115 = .ok (.iconst 4, 1) := by decide +kernel
theorem dX3_multiply_116 : decode cX3_multiply 116 = .ok (.iadd, 1) := by decide +kernel
theorem dX3_multiply_117 : decode cX3_multiply 117 = .ok (.laload, 1) := by decide +kernel
theorem dX3_multiply_118 : decode cX3_multiply 118 = .ok (.lstore 31, 2) := by decide +kernel
theorem dX3_multiply_120 : decode cX3_multiply 120 = .ok (.aload 4, 2) := by decide +kernel
theorem dX3_multiply_122 : decode cX3_multiply 122 = .ok (.iload_n 3, 1) := by decide +kernel
theorem dX3_multiply_123 : decode cX3_multiply 123 = .ok (.iconst 5, 1) := by decide +kernel
theorem dX3_multiply_124 : decode cX3_multiply 124 = .ok (.iadd, 1) := by decide +kernel
theorem dX3_multiply_125 : decode cX3_multiply 125 = .ok (.laload, 1) := by decide +kernel
theorem dX3_multiply_126 : decode cX3_multiply 126 = .ok (.lstore 33, 2) := by decide +kernel
theorem dX3_multiply_128 : decode cX3_multiply 128 = .ok (.aload 4, 2) := by decide +kernel
theorem dX3_multiply_130 : decode cX3_multiply 130 = .ok (.iload_n 3, 1) := by decide +kernel
theorem dX3_multiply_131 : decode cX3_multiply 131 = .ok (.bipush 6, 2) := by decide +kernel
theorem dX3_multiply_133 : decode cX3_multiply 133 = .ok (.iadd, 1) := by decide +kernel
theorem dX3_multiply_134 : decode cX3_multiply 134 = .ok (.laload, 1) := by decide +kernel
theorem dX3_multiply_135 : decode cX3_multiply 135 = .ok (.lstore 35, 2) := by decide +kernel
theorem dX3_multiply_137 : decode cX3_multiply 137 = .ok (.aload 4, 2) := by decide +kernel
theorem dX3_multiply_139 : decode cX3_multiply 139 = .ok (.iload_n 3, 1) := by decide +kernel
theorem dX3_multiply_140 : decode cX3_multiply 140 = .ok (.bipush 7, 2) := by decide +kernel
theorem dX3_multiply_142 : decode cX3_multiply 142 = .ok (.iadd, 1) := by decide +kernel
theorem dX3_multiply_143 : decode cX3_multiply 143 = .ok (.laload, 1) := by decide +kernel
theorem dX3_multiply_144 : decode cX3_multiply 144 = .ok (.lstore 37, 2) := by decide +kernel
theorem dX3_multiply_146 : decode cX3_multiply 146 = .ok (.aload 4, 2) := by decide +kernel
theorem dX3_multiply_148 : decode cX3_multiply 148 = .ok (.iload_n 3, 1) := by decide +kernel
theorem dX3_multiply_149 : decode cX3_multiply 149 = .ok (.bipush 8, 2) := by decide +kernel
theorem dX3_multiply_151 : decode cX3_multiply 151 = .ok (.iadd, 1) := by decide +kernel
theorem dX3_multiply_152 : decode cX3_multiply 152 = .ok (.laload, 1) := by decide +kernel
theorem dX3_multiply_153 : decode cX3_multiply 153 = .ok (.lstore 39, 2) := by decide +kernel
theorem dX3_multiply_155 : decode cX3_multiply 155 = .ok (.lload 7, 2) := by decide +kernel
theorem dX3_multiply_157 : decode cX3_multiply 157 = .ok (.lload 39, 2) := by decide +kernel
theorem dX3_multiply_159 : decode cX3_multiply 159 = .ok (.lmul, 1) := by decide +kernel
theorem dX3_multiply_160 : decode cX3_multiply 160 = .ok (.lload 9, 2) := by decide +kernel
theorem dX3_multiply_162 : decode cX3_multiply 162 = .ok (.lload 37, 2) := by decide +kernel
theorem dX3_multiply_164 : decode cX3_multiply 164 = .ok (.lmul, 1) := by decide +kernel
theorem dX3_multiply_165 : decode cX3_multiply 165 = .ok (.ladd, 1) := by decide +kernel
theorem dX3_multiply_166 : decode cX3_multiply 166 = .ok (.lload 11, 2) := by decide +kernel
theorem dX3_multiply_168 : decode cX3_multiply 168 = .ok (.lload 35, 2) := by decide +kernel
theorem dX3_multiply_170 : decode cX3_multiply 170 = .ok (.lmul, 1) := by decide +kernel
theorem dX3_multiply_171 : decode cX3_multiply 171 = .ok (.ladd, 1) := by decide +kernel
theorem dX3_multiply_172 : decode cX3_multiply 172 = .ok (.lload 13, 2) := by decide +kernel
theorem dX3_multiply_174 : decode cX3_multiply 174 = .ok (.lload 33, 2) := by decide +kernel
theorem dX3_multiply_176 : decode cX3_multiply 176 = .ok (.lmul, 1) := by decide +kernel
theorem dX3_multiply_177 : decode cX3_multiply 177 = .ok (.ladd, 1) := by decide +kernel
theorem dX3_multiply_178 : decode cX3_multiply 178 = .ok (.lload 15, 2) := by decide +kernel
theorem dX3_multiply_180 : decode cX3_multiply 180 = .ok (.lload 31, 2) := by decide +kernel
theorem dX3_multiply_182 : decode cX3_multiply 182 = .ok (.lmul, 1) := by decide +kernel
theorem dX3_multiply_183 : decode cX3_multiply 183 = .ok (.ladd, 1) := by decide +kernel
theorem dX3_multiply_184 : decode cX3_multiply 184 = .ok (.lload 17, 2) := by decide +kernel
theorem dX3_multiply_186 : decode cX3_multiply 186 = .ok (.lload 29, 2) := by decide +kernel
theorem dX3_multiply_188 : decode cX3_multiply 188 = .ok (.lmul, 1) := by decide +kernel
theorem dX3_multiply_189 : decode cX3_multiply 189 = .ok (.ladd, 1) := by decide +kernel
theorem dX3_multiply_190 : decode cX3_multiply 190 = .ok (.lload 19, 2) := by decide +kernel
theorem dX3_multiply_192 : decode cX3_multiply 192 = .ok (.lload 27, 2) := by decide +kernel
theorem dX3_multiply_194 : decode cX3_multiply 194 = .ok (.lmul, 1) := by decide +kernel
theorem dX3_multiply_195 : decode cX3_multiply 195 = .ok (.ladd, 1) := by decide +kernel
theorem dX3_multiply_196 : decode cX3_multiply 196 = .ok (.lload 21, 2) := by decide +kernel
theorem dX3_multiply_198 : decode cX3_multiply 198 = .ok (.lload 25, 2) := by decide +kernel
theorem dX3_multiply_200 : decode cX3_multiply 200 = .ok (.lmul, 1) := by decide +kernel
theorem dX3_multiply_201 : decode cX3_multiply 201 = .ok (.ladd, 1) := by decide +kernel
theorem dX3_multiply_202 : decode cX3_multiply 202 = .ok (.lstore 41, 2) := by decide +kernel
theorem dX3_multiply_204 : decode cX3_multiply 204 = .ok (.lload 41, 2) := by decide +kernel
theorem dX3_multiply_206 : decode cX3_multiply 206 = .ok (.bipush 29, 2) := by decide +kernel
theorem dX3_multiply_208 : decode cX3_multiply 208 = .ok (.lushr, 1) := by decide +kernel
theorem dX3_multiply_209 : decode cX3_multiply 209 = .ok (.lload 9, 2) := by decide +kernel
theorem dX3_multiply_211 : decode cX3_multiply 211 = .ok (.lload 39, 2) := by decide +kernel
theorem dX3_multiply_213 : decode cX3_multiply 213 = .ok (.lmul, 1) := by decide +kernel
theorem dX3_multiply_214 : decode cX3_multiply 214 = .ok (.ladd, 1) := by decide +kernel
theorem dX3_multiply_215 : decode cX3_multiply 215 = .ok (.lload 11, 2) := by decide +kernel
theorem dX3_multiply_217 : decode cX3_multiply 217 = .ok (.lload 37, 2) := by decide +kernel
theorem dX3_multiply_219 : decode cX3_multiply 219 = .ok (.lmul, 1) := by decide +kernel
theorem dX3_multiply_220 : decode cX3_multiply 220 = .ok (.ladd, 1) := by decide +kernel
theorem dX3_multiply_221 : decode cX3_multiply 221 = .ok (.lload 13, 2) := by decide +kernel
theorem dX3_multiply_223 : decode cX3_multiply 223 = .ok (.lload 35, 2) := by decide +kernel
theorem dX3_multiply_225 : decode cX3_multiply 225 = .ok (.lmul, 1) := by decide +kernel
theorem dX3_multiply_226 : decode cX3_multiply 226 = .ok (.ladd, 1) := by decide +kernel
theorem dX3_multiply_227 : decode cX3_multiply 227 = .ok (.lload 15, 2) := by decide +kernel
theorem dX3_multiply_229 : decode cX3_multiply 229 = .ok (.lload 33, 2) := by decide +kernel
theorem dX3_multiply_231 : decode cX3_multiply 231 = .ok (.lmul, 1) := by decide +kernel
theorem dX3_multiply_232 : decode cX3_multiply 232 = .ok (.ladd, 1) := by decide +kernel
theorem dX3_multiply_233 : decode cX3_multiply 233 = .ok (.lload 17, 2) := by decide +kernel
theorem dX3_multiply_235 : decode cX3_multiply 235 = .ok (.lload 31, 2) := by decide +kernel
theorem dX3_multiply_237 : decode cX3_multiply 237 = .ok (.lmul, 1) := by decide +kernel
theorem dX3_multiply_238 : decode cX3_multiply 238 = .ok (.ladd, 1) := by decide +kernel
theorem dX3_multiply_239 : decode cX3_multiply 239 = .ok (.lload 19, 2) := by decide +kernel
theorem dX3_multiply_241 : decode cX3_multiply 241 = .ok (.lload 29, 2) := by decide +kernel
theorem dX3_multiply_243 : decode cX3_multiply 243 = .ok (.lmul, 1) := by decide +kernel
theorem dX3_multiply_244 : decode cX3_multiply 244 = .ok (.ladd, 1) := by decide +kernel
theorem dX3_multiply_245 : decode cX3_multiply 245 = .ok (.lload 21, 2) := by decide +kernel
theorem dX3_multiply_247 : decode cX3_multiply 247 = .ok (.lload 27, 2) := by decide +kernel
theorem dX3_multiply_249 : decode cX3_multiply 249 = .ok (.lmul, 1) := by decide +kernel
theorem dX3_multiply_250 : decode cX3_multiply 250 = .ok (.ladd, 1) := by decide +kernel
theorem dX3_multiply_251 : decode cX3_multiply 251 = .ok (.lstore 43, 2) := by decide +kernel
theorem dX3_multiply_253 : decode cX3_multiply 253 = .ok (.lload 43, 2) := by decide +kernel
theorem dX3_multiply_255 : decode cX3_multiply 255 = .ok (.bipush 29, 2) := by decide +kernel
theorem dX3_multiply_257 : decode cX3_multiply 257 = .ok (.lushr, 1) := by decide +kernel
theorem dX3_multiply_258 : decode cX3_multiply 258 = .ok (.lload 11, 2) := by decide +kernel
theorem dX3_multiply_260 : decode cX3_multiply 260 = .ok (.lload 39, 2) := by decide +kernel
theorem dX3_multiply_262 : decode cX3_multiply 262 = .ok (.lmul, 1) := by decide +kernel
theorem dX3_multiply_263 : decode cX3_multiply 263 = .ok (.ladd, 1) := by decide +kernel
theorem dX3_multiply_264 : decode cX3_multiply 264 = .ok (.lload 13, 2) := by decide +kernel
theorem dX3_multiply_266 : decode cX3_multiply 266 = .ok (.lload 37, 2) := by decide +kernel
theorem dX3_multiply_268 : decode cX3_multiply 268 = .ok (.lmul, 1) := by decide +kernel
theorem dX3_multiply_269 : decode cX3_multiply 269 = .ok (.ladd, 1) := by decide +kernel
theorem dX3_multiply_270 : decode cX3_multiply 270 = .ok (.lload 15, 2) := by decide +kernel
theorem dX3_multiply_272 : decode cX3_multiply 272 = .ok (.lload 35, 2) := by decide +kernel
theorem dX3_multiply_274 : decode cX3_multiply 274 = .ok (.lmul, 1) := by decide +kernel
theorem dX3_multiply_275 : decode cX3_multiply 275 = .ok (.ladd, 1) := by decide +kernel
theorem dX3_multiply_276 : decode cX3_multiply 276 = .ok (.lload 17, 2) := by decide +kernel
theorem dX3_multiply_278 : decode cX3_multiply 278 = .ok (.lload 33, 2) := by decide +kernel
theorem dX3_multiply_280 : decode cX3_multiply 280 = .ok (.lmul, 1) := by decide +kernel
theorem dX3_multiply_281 : decode cX3_multiply 281 = .ok (.ladd, 1) := by decide +kernel
theorem dX3_multiply_282 : decode cX3_multiply 282 = .ok (.lload 19, 2) := by decide +kernel
theorem dX3_multiply_284 : decode cX3_multiply 284 = .ok (.lload 31, 2) := by decide +kernel
theorem dX3_multiply_286 : decode cX3_multiply 286 = .ok (.lmul, 1) := by decide +kernel
theorem dX3_multiply_287 : decode cX3_multiply 287 = .ok (.ladd, 1) := by decide +kernel
theorem dX3_multiply_288 : decode cX3_multiply 288 = .ok (.lload 21, 2) := by decide +kernel
theorem dX3_multiply_290 : decode cX3_multiply 290 = .ok (.lload 29, 2) := by decide +kernel
theorem dX3_multiply_292 : decode cX3_multiply 292 = .ok (.lmul, 1) := by decide +kernel
theorem dX3_multiply_293 : decode cX3_multiply 293 = .ok (.ladd, 1) := by decide +kernel
theorem dX3_multiply_294 : decode cX3_multiply 294 = .ok (.lstore 45, 2) := by decide +kernel
theorem dX3_multiply_296 : decode cX3_multiply 296 = .ok (.lload 45, 2) := by decide +kernel
theorem dX3_multiply_298 : decode cX3_multiply 298 = .ok (.bipush 29, 2) := by decide +kernel
theorem dX3_multiply_300 : decode cX3_multiply 300 = .ok (.lushr, 1) := by decide +kernel
theorem dX3_multiply_301 : decode cX3_multiply 301 = .ok (.lload 13, 2) := by decide +kernel
theorem dX3_multiply_303 : decode cX3_multiply 303 = .ok (.lload 39, 2) := by decide +kernel
theorem dX3_multiply_305 : decode cX3_multiply 305 = .ok (.lmul, 1) := by decide +kernel
theorem dX3_multiply_306 : decode cX3_multiply 306 = .ok (.ladd, 1) := by decide +kernel
theorem dX3_multiply_307 : decode cX3_multiply 307 = .ok (.lload 15, 2) := by decide +kernel
theorem dX3_multiply_309 : decode cX3_multiply 309 = .ok (.lload 37, 2) := by decide +kernel
theorem dX3_multiply_311 : decode cX3_multiply 311 = .ok (.lmul, 1) := by decide +kernel
theorem dX3_multiply_312 : decode cX3_multiply 312 = .ok (.ladd, 1) := by decide +kernel
theorem dX3_multiply_313 : decode cX3_multiply 313 = .ok (.lload 17, 2) := by decide +kernel
theorem dX3_multiply_315 : decode cX3_multiply 315 = .ok (.lload 35, 2) := by decide +kernel
theorem dX3_multiply_317 : decode cX3_multiply 317 = .ok (.lmul, 1) := by decide +kernel
theorem dX3_multiply_318 : decode cX3_multiply 318 = .ok (.ladd, 1) := by decide +kernel
theorem dX3_multiply_319 : decode cX3_multiply 319 = .ok (.lload 19, 2) := by decide +kernel
theorem dX3_multiply_321 : decode cX3_multiply 321 = .ok (.lload 33, 2) := by decide +kernel
theorem dX3_multiply_323 : decode cX3_multiply 323 = .ok (.lmul, 1) := by decide +kernel
theorem dX3_multiply_324 : decode cX3_multiply 324 = .ok (.ladd, 1) := by decide +kernel
theorem dX3_multiply_325 : decode cX3_multiply 325 = .ok (.lload 21, 2) := by decide +kernel
theorem dX3_multiply_327 : decode cX3_multiply 327 = .ok (.lload 31, 2) := by decide +kernel
theorem dX3_multiply_329 : decode cX3_multiply 329 = .ok (.lmul, 1) := by decide +kernel
theorem dX3_multiply_330 : decode cX3_multiply 330 = .ok (.ladd, 1) := by decide +kernel
theorem dX3_multiply_331 : decode cX3_multiply 331 = .ok (.lstore 47, 2) := by decide +kernel
theorem dX3_multiply_333 : decode cX3_multiply 333 = .ok (.lload 47, 2) := by decide +kernel
theorem dX3_multiply_335 : decode cX3_multiply 335 = .ok (.bipush 29, 2) := by decide +kernel
theorem dX3_multiply_337 : decode cX3_multiply 337 = .ok (.lushr, 1) := by decide +kernel
theorem dX3_multiply_338 : decode cX3_multiply 338 = .ok (.lload 15, 2) := by decide +kernel
theorem dX3_multiply_340 : decode cX3_multiply 340 = .ok (.lload 39, 2) := by decide +kernel
theorem dX3_multiply_342 : decode cX3_multiply 342 = .ok (.lmul, 1) := by decide +kernel
theorem dX3_multiply_343 : decode cX3_multiply 343 = .ok (.ladd, 1) := by decide +kernel
theorem dX3_multiply_344 : decode cX3_multiply 344 = .ok (.lload 17, 2) := by decide +kernel
theorem dX3_multiply_346 : decode cX3_multiply 346 = .ok (.lload 37, 2) := by decide +kernel
theorem dX3_multiply_348 : decode cX3_multiply 348 = .ok (.lmul, 1) := by decide +kernel
theorem dX3_multiply_349 : decode cX3_multiply 349 = .ok (.ladd, 1) := by decide +kernel
theorem dX3_multiply_350 : decode cX3_multiply 350 = .ok (.lload 19, 2) := by decide +kernel
theorem dX3_multiply_352 : decode cX3_multiply 352 = .ok (.lload 35, 2) := by decide +kernel
theorem dX3_multiply_354 : decode cX3_multiply 354 = .ok (.lmul, 1) := by decide +kernel
theorem dX3_multiply_355 : decode cX3_multiply 355 = .ok (.ladd, 1) := by decide +kernel
theorem dX3_multiply_356 : decode cX3_multiply 356 = .ok (.lload 21, 2) := by decide +kernel
theorem dX3_multiply_358 : decode cX3_multiply 358 = .ok (.lload 33, 2) := by decide +kernel
theorem dX3_multiply_360 : decode cX3_multiply 360 = .ok (.lmul, 1) := by decide +kernel
theorem dX3_multiply_361 : decode cX3_multiply 361 = .ok (.ladd, 1) := by decide +kernel
theorem dX3_multiply_362 : decode cX3_multiply 362 = .ok (.lstore 49, 2) := by decide +kernel
theorem dX3_multiply_364 : decode cX3_multiply 364 = .ok (.lload 49, 2) := by decide +kernel
theorem dX3_multiply_366 : decode cX3_multiply 366 = .ok (.bipush 29, 2) := by decide +kernel
theorem dX3_multiply_368 : decode cX3_multiply 368 = .ok (.lushr, 1) := by decide +kernel
theorem dX3_multiply_369 : decode cX3_multiply 369 = .ok (.lload 17, 2) := by decide +kernel
theorem dX3_multiply_371 : decode cX3_multiply 371 = .ok (.lload 39, 2) := by decide +kernel
theorem dX3_multiply_373 : decode cX3_multiply 373 = .ok (.lmul, 1) := by decide +kernel
theorem dX3_multiply_374 : decode cX3_multiply 374 = .ok (.ladd, 1) := by decide +kernel
theorem dX3_multiply_375 : decode cX3_multiply 375 = .ok (.lload 19, 2) := by decide +kernel
theorem dX3_multiply_377 : decode cX3_multiply 377 = .ok (.lload 37, 2) := by decide +kernel
theorem dX3_multiply_379 : decode cX3_multiply 379 = .ok (.lmul, 1) := by decide +kernel
theorem dX3_multiply_380 : decode cX3_multiply 380 = .ok (.ladd, 1) := by decide +kernel
theorem dX3_multiply_381 : decode cX3_multiply 381 = .ok (.lload 21, 2) := by decide +kernel
theorem dX3_multiply_383 : decode cX3_multiply 383 = .ok (.lload 35, 2) := by decide +kernel
theorem dX3_multiply_385 : decode cX3_multiply 385 = .ok (.lmul, 1) := by decide +kernel
theorem dX3_multiply_386 : decode cX3_multiply 386 = .ok (.ladd, 1) := by decide +kernel
theorem dX3_multiply_387 : decode cX3_multiply 387 = .ok (.lstore 51, 2) := by decide +kernel
theorem dX3_multiply_389 : decode cX3_multiply 389 = .ok (.lload 51, 2) := by decide +kernel
theorem dX3_multiply_391 : decode cX3_multiply 391 = .ok (.bipush 29, 2) := by decide +kernel
theorem dX3_multiply_393 : decode cX3_multiply 393 = .ok (.lushr, 1) := by decide +kernel
theorem dX3_multiply_394 : decode cX3_multiply 394 = .ok (.lload 19, 2) := by decide +kernel
theorem dX3_multiply_396 : decode cX3_multiply 396 = .ok (.lload 39, 2) := by decide +kernel
theorem dX3_multiply_398 : decode cX3_multiply 398 = .ok (.lmul, 1) := by decide +kernel
theorem dX3_multiply_399 : decode cX3_multiply 399 = .ok (.ladd, 1) := by decide +kernel
theorem dX3_multiply_400 : decode cX3_multiply 400 = .ok (.lload 21, 2) := by decide +kernel
theorem dX3_multiply_402 : decode cX3_multiply 402 = .ok (.lload 37, 2) := by decide +kernel
theorem dX3_multiply_404 : decode cX3_multiply 404 = .ok (.lmul, 1) := by decide +kernel
theorem dX3_multiply_405 : decode cX3_multiply 405 = .ok (.ladd, 1) := by decide +kernel
theorem dX3_multiply_406 : decode cX3_multiply 406 = .ok (.lstore 53, 2) := by decide +kernel
theorem dX3_multiply_408 : decode cX3_multiply 408 = .ok (.lload 53, 2) := by decide +kernel
theorem dX3_multiply_410 : decode cX3_multiply 410 = .ok (.bipush 29, 2) := by decide +kernel
theorem dX3_multiply_412 : decode cX3_multiply 412 = .ok (.lushr, 1) := by decide +kernel
theorem dX3_multiply_413 : decode cX3_multiply 413 = .ok (.lload 21, 2) := by decide +kernel
theorem dX3_multiply_415 : decode cX3_multiply 415 = .ok (.lload 39, 2) := by decide +kernel
theorem dX3_multiply_417 : decode cX3_multiply 417 = .ok (.lmul, 1) := by decide +kernel
theorem dX3_multiply_418 : decode cX3_multiply 418 = .ok (.ladd, 1) := by decide +kernel
theorem dX3_multiply_419 : decode cX3_multiply 419 = .ok (.lstore 55, 2) := by decide +kernel
theorem dX3_multiply_421 : decode cX3_multiply 421 = .ok (.lload 41, 2) := by decide +kernel
theorem dX3_multiply_423 : decode cX3_multiply 423 = .ok (.ldc2_w 178, 3) := by decide +kernel
theorem dX3_multiply_426 : decode cX3_multiply 426 = .ok (.land, 1) := by decide +kernel
theorem dX3_multiply_427 : decode cX3_multiply 427 = .ok (.lstore 57, 2) := by decide +kernel
theorem dX3_multiply_429 : decode cX3_multiply 429 = .ok (.lload 43, 2) := by decide +kernel
theorem dX3_multiply_431 : decode cX3_multiply 431 = .ok (.ldc2_w 178, 3) := by decide +kernel
theorem dX3_multiply_434 : decode cX3_multiply 434 = .ok (.land, 1) := by decide +kernel
theorem dX3_multiply_435 : decode cX3_multiply 435 = .ok (.lstore 59, 2) := by decide +kernel
theorem dX3_multiply_437 : decode cX3_multiply 437 = .ok (.lload 45, 2) := by decide +kernel
theorem dX3_multiply_439 : decode cX3_multiply 439 = .ok (.ldc2_w 178, 3) := by decide +kernel
theorem dX3_multiply_442 : decode cX3_multiply 442 = .ok (.land, 1) := by decide +kernel
theorem dX3_multiply_443 : decode cX3_multiply 443 = .ok (.lstore 61, 2) := by decide +kernel
theorem dX3_multiply_445 : decode cX3_multiply 445 = .ok (.lload 47, 2) := by decide +kernel
theorem dX3_multiply_447 : decode cX3_multiply 447 = .ok (.ldc2_w 178, 3) := by decide +kernel
theorem dX3_multiply_450 : decode cX3_multiply 450 = .ok (.land, 1) := by decide +kernel
theorem dX3_multiply_451 : decode cX3_multiply 451 = .ok (.lstore 63, 2) := by decide +kernel
theorem dX3_multiply_453 : decode cX3_multiply 453 = .ok (.lload 49, 2) := by decide +kernel
theorem dX3_multiply_455 : decode cX3_multiply 455 = .ok (.ldc2_w 178, 3) := by decide +kernel
theorem dX3_multiply_458 : decode cX3_multiply 458 = .ok (.land, 1) := by decide +kernel
theorem dX3_multiply_459 : decode cX3_multiply 459 = .ok (.lstore 65, 2) := by decide +kernel
theorem dX3_multiply_461 : decode cX3_multiply 461 = .ok (.lload 51, 2) := by decide +kernel
theorem dX3_multiply_463 : decode cX3_multiply 463 = .ok (.ldc2_w 178, 3) := by decide +kernel
theorem dX3_multiply_466 : decode cX3_multiply 466 = .ok (.land, 1) := by decide +kernel
theorem dX3_multiply_467 : decode cX3_multiply 467 = .ok (.lstore 67, 2) := by decide +kernel
theorem dX3_multiply_469 : decode cX3_multiply 469 = .ok (.lload 53, 2) := by decide +kernel
theorem dX3_multiply_471 : decode cX3_multiply 471 = .ok (.ldc2_w 178, 3) := by decide +kernel
theorem dX3_multiply_474 : decode cX3_multiply 474 = .ok (.land, 1) := by decide +kernel
theorem dX3_multiply_475 : decode cX3_multiply 475 = .ok (.lstore 69, 2) := by decide +kernel
theorem dX3_multiply_477 : decode cX3_multiply 477 = .ok (.lload 55, 2) := by decide +kernel
theorem dX3_multiply_479 : decode cX3_multiply 479 = .ok (.ldc2_w 178, 3) := by decide +kernel
theorem dX3_multiply_482 : decode cX3_multiply 482 = .ok (.land, 1) := by decide +kernel
theorem dX3_multiply_483 : decode cX3_multiply 483 = .ok (.lstore 71, 2) := by decide +kernel
theorem dX3_multiply_485 : decode cX3_multiply 485 = .ok (.lload 55, 2) := by decide +kernel
theorem dX3_multiply_487 : decode cX3_multiply 487 = .ok (.bipush 29, 2) := by decide +kernel
theorem dX3_multiply_489 : decode cX3_multiply 489 = .ok (.lushr, 1) := by decide +kernel
theorem dX3_multiply_490 : decode cX3_multiply 490 = .ok (.lstore 73, 2) := by decide +kernel
theorem dX3_multiply_492 : decode cX3_multiply 492 = .ok (.lload 5, 2) := by decide +kernel
theorem dX3_multiply_494 : decode cX3_multiply 494 = .ok (.lload 23, 2) := by decide +kernel
theorem dX3_multiply_496 : decode cX3_multiply 496 = .ok (.lmul, 1) := by decide +kernel
theorem dX3_multiply_497 : decode cX3_multiply 497 = .ok (.ldc2_w 180, 3) := by decide +kernel
theorem dX3_multiply_500 : decode cX3_multiply 500 = .ok (.lload 57, 2) := by decide +kernel
theorem dX3_multiply_502 : decode cX3_multiply 502 = .ok (.lmul, 1) := by decide +kernel
theorem dX3_multiply_503 : decode cX3_multiply 503 = .ok (.ladd, 1) := by decide +kernel
theorem dX3_multiply_504 : decode cX3_multiply 504 = .ok (.ldc2_w 182, 3) := by decide +kernel
theorem dX3_multiply_507 : decode cX3_multiply 507 = .ok (.lload 73, 2) := by decide +kernel
theorem dX3_multiply_509 : decode cX3_multiply 509 = .ok (.lmul, 1) := by decide +kernel
theorem dX3_multiply_510 : decode cX3_multiply 510 = .ok (.ladd, 1) := by decide +kernel
theorem dX3_multiply_511 : decode cX3_multiply 511 = .ok (.lstore 75, 2) := by decide +kernel
theorem dX3_multiply_513 : decode cX3_multiply 513 = .ok (.lload 75, 2) := by decide +kernel
theorem dX3_multiply_515 : decode cX3_multiply 515 = .ok (.ldc2_w 178, 3) := by decide +kernel
theorem dX3_multiply_518 : decode cX3_multiply 518 = .ok (.land, 1) := by decide +kernel
theorem dX3_multiply_519 : decode cX3_multiply 519 = .ok (.lstore 77, 2) := by decide +kernel
theorem dX3_multiply_521 : decode cX3_multiply 521 = .ok (.lload 75, 2) := by decide +kernel
theorem dX3_multiply_523 : decode cX3_multiply 523 = .ok (.bipush 29, 2) := by decide +kernel
theorem dX3_multiply_525 : decode cX3_multiply 525 = .ok (.lushr, 1) := by decide +kernel
theorem dX3_multiply_526 : decode cX3_multiply 526 = .ok (.lload 5, 2) := by decide +kernel
theorem dX3_multiply_528 : decode cX3_multiply 528 = .ok (.lload 25, 2) := by decide +kernel
theorem dX3_multiply_530 : decode cX3_multiply 530 = .ok (.lmul, 1) := by decide +kernel
theorem dX3_multiply_531 : decode cX3_multiply 531 = .ok (.ladd, 1) := by decide +kernel
theorem dX3_multiply_532 : decode cX3_multiply 532 = .ok (.lload 7, 2) := by decide +kernel
theorem dX3_multiply_534 : decode cX3_multiply 534 = .ok (.lload 23, 2) := by decide +kernel
theorem dX3_multiply_536 : decode cX3_multiply 536 = .ok (.lmul, 1) := by decide +kernel
theorem dX3_multiply_537 : decode cX3_multiply 537 = .ok (.ladd, 1) := by decide +kernel
theorem dX3_multiply_538 : decode cX3_multiply 538 = .ok (.ldc2_w 180, 3) := by decide +kernel
theorem dX3_multiply_541 : decode cX3_multiply 541 = .ok (.lload 59, 2) := by decide +kernel
theorem dX3_multiply_543 : decode cX3_multiply 543 = .ok (.lmul, 1) := by decide +kernel
theorem dX3_multiply_544 : decode cX3_multiply 544 = .ok (.ladd, 1) := by decide +kernel
theorem dX3_multiply_545 : decode cX3_multiply 545 = .ok (.ldc2_w 184, 3) := by decide +kernel
theorem dX3_multiply_548 : decode cX3_multiply 548 = .ok (.lload 57, 2) := by decide +kernel
theorem dX3_multiply_550 : decode cX3_multiply 550 = .ok (.lmul, 1) := by decide +kernel
theorem dX3_multiply_551 : decode cX3_multiply 551 = .ok (.ladd, 1) := by decide +kernel
theorem dX3_multiply_552 : decode cX3_multiply 552 = .ok (.ldc2_w 186, 3) := by decide +kernel
theorem dX3_multiply_555 : decode cX3_multiply 555 = .ok (.lload 73, 2) := by decide +kernel
theorem dX3_multiply_557 : decode cX3_multiply 557 = .ok (.lmul, 1) := by decide +kernel
theorem dX3_multiply_558 : decode cX3_multiply 558 = .ok (.ladd, 1) := by decide +kernel
theorem dX3_multiply_559 : decode cX3_multiply 559 = .ok (.lstore 75, 2) := by decide +kernel
theorem dX3_multiply_561 : decode cX3_multiply 561 = .ok (.lload 75, 2) := by decide +kernel
theorem dX3_multiply_563 : decode cX3_multiply 563 = .ok (.ldc2_w 178, 3) := by decide +kernel
theorem dX3_multiply_566 : decode cX3_multiply 566 = .ok (.land, 1) := by decide +kernel
theorem dX3_multiply_567 : decode cX3_multiply 567 = .ok (.lstore 79, 2) := by decide +kernel
theorem dX3_multiply_569 : decode cX3_multiply 569 = .ok (.lload 75, 2) := by decide +kernel
theorem dX3_multiply_571 : decode cX3_multiply 571 = .ok (.bipush 29, 2) := by decide +kernel
theorem dX3_multiply_573 : decode cX3_multiply 573 = .ok (.lushr, 1) := by decide +kernel
theorem dX3_multiply_574 : decode cX3_multiply 574 = .ok (.lload 5, 2) := by decide +kernel
theorem dX3_multiply_576 : decode cX3_multiply 576 = .ok (.lload 27, 2) := by decide +kernel
theorem dX3_multiply_578 : decode cX3_multiply 578 = .ok (.lmul, 1) := by decide +kernel
theorem dX3_multiply_579 : decode cX3_multiply 579 = .ok (.ladd, 1) := by decide +kernel
theorem dX3_multiply_580 : decode cX3_multiply 580 = .ok (.lload 7, 2) := by decide +kernel
theorem dX3_multiply_582 : decode cX3_multiply 582 = .ok (.lload 25, 2) := by decide +kernel
theorem dX3_multiply_584 : decode cX3_multiply 584 = .ok (.lmul, 1) := by decide +kernel
theorem dX3_multiply_585 : decode cX3_multiply 585 = .ok (.ladd, 1) := by decide +kernel
theorem dX3_multiply_586 : decode cX3_multiply 586 = .ok (.lload 9, 2) := by decide +kernel
theorem dX3_multiply_588 : decode cX3_multiply 588 = .ok (.lload 23, 2) := by decide +kernel
theorem dX3_multiply_590 : decode cX3_multiply 590 = .ok (.lmul, 1) := by decide +kernel
theorem dX3_multiply_591 : decode cX3_multiply 591 = .ok (.ladd, 1) := by decide +kernel
theorem dX3_multiply_592 : decode cX3_multiply 592 = .ok (.ldc2_w 180, 3) := by decide +kernel
theorem dX3_multiply_595 : decode cX3_multiply 595 = .ok (.lload 61, 2) := by decide +kernel
theorem dX3_multiply_597 : decode cX3_multiply 597 = .ok (.lmul, 1) := by decide +kernel
theorem dX3_multiply_598 : decode cX3_multiply 598 = .ok (.ladd, 1) := by decide +kernel
theorem dX3_multiply_599 : decode cX3_multiply 599 = .ok (.ldc2_w 184, 3) := by decide +kernel
theorem dX3_multiply_602 : decode cX3_multiply 602 = .ok (.lload 59, 2) := by decide +kernel
theorem dX3_multiply_604 : decode cX3_multiply 604 = .ok (.lmul, 1) := by decide +kernel
theorem dX3_multiply_605 : decode cX3_multiply 605 = .ok (.ladd, 1) := by decide +kernel
theorem dX3_multiply_606 : decode cX3_multiply 606 = .ok (.lstore 75, 2) := by decide +kernel
theorem dX3_multiply_608 : decode cX3_multiply 608 = .ok (.aload 4, 2) := by decide +kernel
theorem dX3_multiply_610 : decode cX3_multiply 610 = .ok (.iload_n 1, 1) := by decide +kernel
theorem dX3_multiply_611 : decode cX3_multiply 611 = .ok (.iconst 2, 1) := by decide +kernel
theorem dX3_multiply_612 : decode cX3_multiply 612 = .ok (.iadd, 1) := by decide +kernel
theorem dX3_multiply_613 : decode cX3_multiply 613 = .ok (.lload 75, 2) := by decide +kernel
theorem dX3_multiply_615 : decode cX3_multiply 615 = .ok (.ldc2_w 178, 3) := by decide +kernel
theorem dX3_multiply_618 : decode cX3_multiply 618 = .ok (.land, 1) := by decide +kernel
theorem dX3_multiply_619 : decode cX3_multiply 619 = .ok (.lastore, 1) := by decide +kernel
theorem dX3_multiply_620 : decode cX3_multiply 620 = .ok (.lload 75, 2) := by decide +kernel
theorem dX3_multiply_622 : decode cX3_multiply 622 = .ok (.bipush 29, 2) := by decide +kernel
theorem dX3_multiply_624 : decode cX3_multiply 624 = .ok (.lushr, 1) := by decide +kernel
theorem dX3_multiply_625 : decode cX3_multiply 625 = .ok (.lload 5, 2) := by decide +kernel
theorem dX3_multiply_627 : decode cX3_multiply 627 = .ok (.lload 29, 2) := by decide +kernel
theorem dX3_multiply_629 : decode cX3_multiply 629 = .ok (.lmul, 1) := by decide +kernel
theorem dX3_multiply_630 : decode cX3_multiply 630 = .ok (.ladd, 1) := by decide +kernel
theorem dX3_multiply_631 : decode cX3_multiply 631 = .ok (.lload 7, 2) := by decide +kernel
theorem dX3_multiply_633 : decode cX3_multiply 633 = .ok (.lload 27, 2) := by decide +kernel
theorem dX3_multiply_635 : decode cX3_multiply 635 = .ok (.lmul, 1) := by decide +kernel
theorem dX3_multiply_636 : decode cX3_multiply 636 = .ok (.ladd, 1) := by decide +kernel
theorem dX3_multiply_637 : decode cX3_multiply 637 = .ok (.lload 9, 2) := by decide +kernel
theorem dX3_multiply_639 : decode cX3_multiply 639 = .ok (.lload 25, 2) := by decide +kernel
theorem dX3_multiply_641 : decode cX3_multiply 641 = .ok (.lmul, 1) := by decide +kernel
theorem dX3_multiply_642 : decode cX3_multiply 642 = .ok (.ladd, 1) := by decide +kernel
theorem dX3_multiply_643 : decode cX3_multiply 643 = .ok (.lload 11, 2) := by decide +kernel
theorem dX3_multiply_645 : decode cX3_multiply 645 = .ok (.lload 23, 2) := by decide +kernel
theorem dX3_multiply_647 : decode cX3_multiply 647 = .ok (.lmul, 1) := by decide +kernel
theorem dX3_multiply_648 : decode cX3_multiply 648 = .ok (.ladd, 1) := by decide +kernel
theorem dX3_multiply_649 : decode cX3_multiply 649 = .ok (.ldc2_w 180, 3) := by decide +kernel
theorem dX3_multiply_652 : decode cX3_multiply 652 = .ok (.lload 63, 2) := by decide +kernel
theorem dX3_multiply_654 : decode cX3_multiply 654 = .ok (.lmul, 1) := by decide +kernel
theorem dX3_multiply_655 : decode cX3_multiply 655 = .ok (.ladd, 1) := by decide +kernel
theorem dX3_multiply_656 : decode cX3_multiply 656 = .ok (.ldc2_w 184, 3) := by decide +kernel
theorem dX3_multiply_659 : decode cX3_multiply 659 = .ok (.lload 61, 2) := by decide +kernel
theorem dX3_multiply_661 : decode cX3_multiply 661 = .ok (.lmul, 1) := by decide +kernel
theorem dX3_multiply_662 : decode cX3_multiply 662 = .ok (.ladd, 1) := by decide +kernel
theorem dX3_multiply_663 : decode cX3_multiply 663 = .ok (.lstore 75, 2) := by decide +kernel
theorem dX3_multiply_665 : decode cX3_multiply 665 = .ok (.aload 4, 2) := by decide +kernel
theorem dX3_multiply_667 : decode cX3_multiply 667 = .ok (.iload_n 1, 1) := by decide +kernel
theorem dX3_multiply_668 : decode cX3_multiply 668 = .ok (.iconst 3, 1) := by decide +kernel
theorem dX3_multiply_669 : decode cX3_multiply 669 = .ok (.iadd, 1) := by decide +kernel
theorem dX3_multiply_670 : decode cX3_multiply 670 = .ok (.lload 75, 2) := by decide +kernel
theorem dX3_multiply_672 : decode cX3_multiply 672 = .ok (.ldc2_w 178, 3) := by decide +kernel
theorem dX3_multiply_675 : decode cX3_multiply 675 = .ok (.land, 1) := by decide +kernel
theorem dX3_multiply_676 : decode cX3_multiply 676 = .ok (.lastore, 1) := by decide +kernel
theorem dX3_multiply_677 : decode cX3_multiply 677 = .ok (.lload 75, 2) := by decide +kernel
theorem dX3_multiply_679 : decode cX3_multiply 679 = .ok (.bipush 29, 2) := by decide +kernel
theorem dX3_multiply_681 : decode cX3_multiply 681 = .ok (.lushr, 1) := by decide +kernel
theorem dX3_multiply_682 : decode cX3_multiply 682 = .ok (.lload 5, 2) := by decide +kernel
theorem dX3_multiply_684 : decode cX3_multiply 684 = .ok (.lload 31, 2) := by decide +kernel
theorem dX3_multiply_686 : decode cX3_multiply 686 = .ok (.lmul, 1) := by decide +kernel
theorem dX3_multiply_687 : decode cX3_multiply 687 = .ok (.ladd, 1) := by decide +kernel
theorem dX3_multiply_688 : decode cX3_multiply 688 = .ok (.lload 7, 2) := by decide +kernel
theorem dX3_multiply_690 : decode cX3_multiply 690 = .ok (.lload 29, 2) := by decide +kernel
theorem dX3_multiply_692 : decode cX3_multiply 692 = .ok (.lmul, 1) := by decide +kernel
theorem dX3_multiply_693 : decode cX3_multiply 693 = .ok (.ladd, 1) := by decide +kernel
theorem dX3_multiply_694 : decode cX3_multiply 694 = .ok (.lload 9, 2) := by decide +kernel
theorem dX3_multiply_696 : decode cX3_multiply 696 = .ok (.lload 27, 2) := by decide +kernel
theorem dX3_multiply_698 : decode cX3_multiply 698 = .ok (.lmul, 1) := by decide +kernel
theorem dX3_multiply_699 : decode cX3_multiply 699 = .ok (.ladd, 1) := by decide +kernel
theorem dX3_multiply_700 : decode cX3_multiply 700 = .ok (.lload 11, 2) := by decide +kernel
theorem dX3_multiply_702 : decode cX3_multiply 702 = .ok (.lload 25, 2) := by decide +kernel
theorem dX3_multiply_704 : decode cX3_multiply 704 = .ok (.lmul, 1) := by decide +kernel
theorem dX3_multiply_705 : decode cX3_multiply 705 = .ok (.ladd, 1) := by decide +kernel
theorem dX3_multiply_706 : decode cX3_multiply 706 = .ok (.lload 13, 2) := by decide +kernel
theorem dX3_multiply_708 : decode cX3_multiply 708 = .ok (.lload 23, 2) := by decide +kernel
theorem dX3_multiply_710 : decode cX3_multiply 710 = .ok (.lmul, 1) := by decide +kernel
theorem dX3_multiply_711 : decode cX3_multiply 711 = .ok (.ladd, 1) := by decide +kernel
theorem dX3_multiply_712 : decode cX3_multiply 712 = .ok (.ldc2_w 180, 3) := by decide +kernel
theorem dX3_multiply_715 : decode cX3_multiply 715 = .ok (.lload 65, 2) := by decide +kernel
theorem dX3_multiply_717 : decode cX3_multiply 717 = .ok (.lmul, 1) := by decide +kernel
theorem dX3_multiply_718 : decode cX3_multiply 718 = .ok (.ladd, 1) := by decide +kernel
theorem dX3_multiply_719 : decode cX3_multiply 719 = .ok (.ldc2_w 184, 3) := by decide +kernel
theorem dX3_multiply_722 : decode cX3_multiply 722 = .ok (.lload 63, 2) := by decide +kernel
theorem dX3_multiply_724 : decode cX3_multiply 724 = .ok (.lmul, 1) := by decide +kernel
theorem dX3_multiply_725 : decode cX3_multiply 725 = .ok (.ladd, 1) := by decide +kernel
theorem dX3_multiply_726 : decode cX3_multiply 726 = .ok (.lstore 75, 2) := by decide +kernel
theorem dX3_multiply_728 : decode cX3_multiply 728 = .ok (.aload 4, 2) := by decide +kernel
theorem dX3_multiply_730 : decode cX3_multiply 730 = .ok (.iload_n 1, 1) := by decide +kernel
theorem dX3_multiply_731 : decode cX3_multiply 731 = .ok (.iconst 4, 1) := by decide +kernel
theorem dX3_multiply_732 : decode cX3_multiply 732 = .ok (.iadd, 1) := by decide +kernel
theorem dX3_multiply_733 : decode cX3_multiply 733 = .ok (.lload 75, 2) := by decide +kernel
theorem dX3_multiply_735 : decode cX3_multiply 735 = .ok (.ldc2_w 178, 3) := by decide +kernel
theorem dX3_multiply_738 : decode cX3_multiply 738 = .ok (.land, 1) := by decide +kernel
theorem dX3_multiply_739 : decode cX3_multiply 739 = .ok (.lastore, 1) := by decide +kernel
theorem dX3_multiply_740 : decode cX3_multiply 740 = .ok (.lload 75, 2) := by decide +kernel
theorem dX3_multiply_742 : decode cX3_multiply 742 = .ok (.bipush 29, 2) := by decide +kernel
theorem dX3_multiply_744 : decode cX3_multiply 744 = .ok (.lushr, 1) := by decide +kernel
theorem dX3_multiply_745 : decode cX3_multiply 745 = .ok (.lload 5, 2) := by decide +kernel
theorem dX3_multiply_747 : decode cX3_multiply 747 = .ok (.lload 33, 2) := by decide +kernel
theorem dX3_multiply_749 : decode cX3_multiply 749 = .ok (.lmul, 1) := by decide +kernel
theorem dX3_multiply_750 : decode cX3_multiply 750 = .ok (.ladd, 1) := by decide +kernel
theorem dX3_multiply_751 : decode cX3_multiply 751 = .ok (.lload 7, 2) := by decide +kernel
theorem dX3_multiply_753 : decode cX3_multiply 753 = .ok (.lload 31, 2) := by decide +kernel
theorem dX3_multiply_755 : decode cX3_multiply 755 = .ok (.lmul, 1) := by decide +kernel
theorem dX3_multiply_756 : decode cX3_multiply 756 = .ok (.ladd, 1) := by decide +kernel
theorem dX3_multiply_757 : decode cX3_multiply 757 = .ok (.lload 9, 2) := by decide +kernel
theorem dX3_multiply_759 : decode cX3_multiply 759 = .ok (.lload 29, 2) := by decide +kernel
theorem dX3_multiply_761 : decode cX3_multiply 761 = .ok (.lmul, 1) := by decide +kernel
theorem dX3_multiply_762 : decode cX3_multiply 762 = .ok (.ladd, 1) := by decide +kernel
theorem dX3_multiply_763 : decode cX3_multiply 763 = .ok (.lload 11, 2) := by decide +kernel
theorem dX3_multiply_765 : decode cX3_multiply 765 = .ok (.lload 27, 2) := by decide +kernel
theorem dX3_multiply_767 : decode cX3_multiply 767 = .ok (.lmul, 1) := by decide +kernel
theorem dX3_multiply_768 : decode cX3_multiply 768 = .ok (.ladd, 1) := by decide +kernel
theorem dX3_multiply_769 : decode cX3_multiply 769 = .ok (.lload 13, 2) := by decide +kernel
theorem dX3_multiply_771 : decode cX3_multiply 771 = .ok (.lload 25, 2) := by decide +kernel
theorem dX3_multiply_773 : decode cX3_multiply 773 = .ok (.lmul, 1) := by decide +kernel
theorem dX3_multiply_774 : decode cX3_multiply 774 = .ok (.ladd, 1) := by decide +kernel
theorem dX3_multiply_775 : decode cX3_multiply 775 = .ok (.lload 15, 2) := by decide +kernel
theorem dX3_multiply_777 : decode cX3_multiply 777 = .ok (.lload 23, 2) := by decide +kernel
theorem dX3_multiply_779 : decode cX3_multiply 779 = .ok (.lmul, 1) := by decide +kernel
theorem dX3_multiply_780 : decode cX3_multiply 780 = .ok (.ladd, 1) := by decide +kernel
theorem dX3_multiply_781 : decode cX3_multiply 781 = .ok (.ldc2_w 180, 3) := by decide +kernel
theorem dX3_multiply_784 : decode cX3_multiply 784 = .ok (.lload 67, 2) := by decide +kernel
theorem dX3_multiply_786 : decode cX3_multiply 786 = .ok (.lmul, 1) := by decide +kernel
theorem dX3_multiply_787 : decode cX3_multiply 787 = .ok (.ladd, 1) := by decide +kernel
theorem dX3_multiply_788 : decode cX3_multiply 788 = .ok (.ldc2_w 184, 3) := by decide +kernel
theorem dX3_multiply_791 : decode cX3_multiply 791 = .ok (.lload 65, 2) := by decide +kernel
theorem dX3_multiply_793 : decode cX3_multiply 793 = .ok (.lmul, 1) := by decide +kernel
theorem dX3_multiply_794 : decode cX3_multiply 794 = .ok (.ladd, 1) := by decide +kernel
theorem dX3_multiply_795 : decode cX3_multiply 795 = .ok (.lstore 75, 2) := by decide +kernel
theorem dX3_multiply_797 : decode cX3_multiply 797 = .ok (.aload 4, 2) := by decide +kernel
theorem dX3_multiply_799 : decode cX3_multiply 799 = .ok (.iload_n 1, 1) := by decide +kernel
theorem dX3_multiply_800 : decode cX3_multiply 800 = .ok (.iconst 5, 1) := by decide +kernel
theorem dX3_multiply_801 : decode cX3_multiply 801 = .ok (.iadd, 1) := by decide +kernel
theorem dX3_multiply_802 : decode cX3_multiply 802 = .ok (.lload 75, 2) := by decide +kernel
theorem dX3_multiply_804 : decode cX3_multiply 804 = .ok (.ldc2_w 178, 3) := by decide +kernel
theorem dX3_multiply_807 : decode cX3_multiply 807 = .ok (.land, 1) := by decide +kernel
theorem dX3_multiply_808 : decode cX3_multiply 808 = .ok (.lastore, 1) := by decide +kernel
theorem dX3_multiply_809 : decode cX3_multiply 809 = .ok (.lload 75, 2) := by decide +kernel
theorem dX3_multiply_811 : decode cX3_multiply 811 = .ok (.bipush 29, 2) := by decide +kernel
theorem dX3_multiply_813 : decode cX3_multiply 813 = .ok (.lushr, 1) := by decide +kernel
theorem dX3_multiply_814 : decode cX3_multiply 814 = .ok (.lload 5, 2) := by decide +kernel
theorem dX3_multiply_816 : decode cX3_multiply 816 = .ok (.lload 35, 2) := by decide +kernel
theorem dX3_multiply_818 : decode cX3_multiply 818 = .ok (.lmul, 1) := by decide +kernel
theorem dX3_multiply_819 : decode cX3_multiply 819 = .ok (.ladd, 1) := by decide +kernel
theorem dX3_multiply_820 : decode cX3_multiply 820 = .ok (.lload 7, 2) := by decide +kernel
theorem dX3_multiply_822 : decode cX3_multiply 822 = .ok (.lload 33, 2) := by decide +kernel
theorem dX3_multiply_824 : decode cX3_multiply 824 = .ok (.lmul, 1) := by decide +kernel
theorem dX3_multiply_825 : decode cX3_multiply 825 = .ok (.ladd, 1) := by decide +kernel
theorem dX3_multiply_826 : decode cX3_multiply 826 = .ok (.lload 9, 2) := by decide +kernel
theorem dX3_multiply_828 : decode cX3_multiply 828 = .ok (.lload 31, 2) := by decide +kernel
theorem dX3_multiply_830 : decode cX3_multiply 830 = .ok (.lmul, 1) := by decide +kernel
theorem dX3_multiply_831 : decode cX3_multiply 831 = .ok (.ladd, 1) := by decide +kernel
theorem dX3_multiply_832 : decode cX3_multiply 832 = .ok (.lload 11, 2) := by decide +kernel
theorem dX3_multiply_834 : decode cX3_multiply 834 = .ok (.lload 29, 2) := by decide +kernel
theorem dX3_multiply_836 : decode cX3_multiply 836 = .ok (.lmul, 1) := by decide +kernel
theorem dX3_multiply_837 : decode cX3_multiply 837 = .ok (.ladd, 1) := by decide +kernel
theorem dX3_multiply_838 : decode cX3_multiply 838 = .ok (.lload 13, 2) := by decide +kernel
theorem dX3_multiply_840 : decode cX3_multiply 840 = .ok (.lload 27, 2) := by decide +kernel
theorem dX3_multiply_842 : decode cX3_multiply 842 = .ok (.lmul, 1) := by decide +kernel
theorem dX3_multiply_843 : decode cX3_multiply 843 = .ok (.ladd, 1) := by decide +kernel
theorem dX3_multiply_844 : decode cX3_multiply 844 = .ok (.lload 15, 2) := by decide +kernel
theorem dX3_multiply_846 : decode cX3_multiply 846 = .ok (.lload 25, 2) := by decide +kernel
theorem dX3_multiply_848 : decode cX3_multiply 848 = .ok (.lmul, 1) := by decide +kernel
theorem dX3_multiply_849 : decode cX3_multiply 849 = .ok (.ladd, 1) := by decide +kernel
theorem dX3_multiply_850 : decode cX3_multiply 850 = .ok (.lload 17, 2) := by decide +kernel
theorem dX3_multiply_852 : decode cX3_multiply 852 = .ok (.lload 23, 2) := by decide +kernel
theorem dX3_multiply_854 : decode cX3_multiply 854 = .ok (.lmul, 1) := by decide +kernel
theorem dX3_multiply_855 : decode cX3_multiply 855 = .ok (.ladd, 1) := by decide +kernel
theorem dX3_multiply_856 : decode cX3_multiply 856 = .ok (.ldc2_w 180, 3) := by decide +kernel
theorem dX3_multiply_859 : decode cX3_multiply 859 = .ok (.lload 69, 2) := by decide +kernel
theorem dX3_multiply_861 : decode cX3_multiply 861 = .ok (.lmul, 1) := by decide +kernel
theorem dX3_multiply_862 : decode cX3_multiply 862 = .ok (.ladd, 1) := by decide +kernel
theorem dX3_multiply_863 : decode cX3_multiply 863 = .ok (.ldc2_w 184, 3) := by decide +kernel
theorem dX3_multiply_866 : decode cX3_multiply 866 = .ok (.lload 67, 2) := by decide +kernel
theorem dX3_multiply_868 : decode cX3_multiply 868 = .ok (.lmul, 1) := by decide +kernel
theorem dX3_multiply_869 : decode cX3_multiply 869 = .ok (.ladd, 1) := by decide +kernel
theorem dX3_multiply_870 : decode cX3_multiply 870 = .ok (.lstore 75, 2) := by decide +kernel
theorem dX3_multiply_872 : decode cX3_multiply 872 = .ok (.aload 4, 2) := by decide +kernel
theorem dX3_multiply_874 : decode cX3_multiply 874 = .ok (.iload_n 1, 1) := by decide +kernel
theorem dX3_multiply_875 : decode cX3_multiply 875 = .ok (.bipush 6, 2) := by decide +kernel
theorem dX3_multiply_877 : decode cX3_multiply 877 = .ok (.iadd, 1) := by decide +kernel
theorem dX3_multiply_878 : decode cX3_multiply 878 = .ok (.lload 75, 2) := by decide +kernel
theorem dX3_multiply_880 : decode cX3_multiply 880 = .ok (.ldc2_w 178, 3) := by decide +kernel
theorem dX3_multiply_883 : decode cX3_multiply 883 = .ok (.land, 1) := by decide +kernel
theorem dX3_multiply_884 : decode cX3_multiply 884 = .ok (.lastore, 1) := by decide +kernel
theorem dX3_multiply_885 : decode cX3_multiply 885 = .ok (.lload 75, 2) := by decide +kernel
theorem dX3_multiply_887 : decode cX3_multiply 887 = .ok (.bipush 29, 2) := by decide +kernel
theorem dX3_multiply_889 : decode cX3_multiply 889 = .ok (.lushr, 1) := by decide +kernel
theorem dX3_multiply_890 : decode cX3_multiply 890 = .ok (.lload 5, 2) := by decide +kernel
theorem dX3_multiply_892 : decode cX3_multiply 892 = .ok (.lload 37, 2) := by decide +kernel
theorem dX3_multiply_894 : decode cX3_multiply 894 = .ok (.lmul, 1) := by decide +kernel
theorem dX3_multiply_895 : decode cX3_multiply 895 = .ok (.ladd, 1) := by decide +kernel
theorem dX3_multiply_896 : decode cX3_multiply 896 = .ok (.lload 7, 2) := by decide +kernel
theorem dX3_multiply_898 : decode cX3_multiply 898 = .ok (.lload 35, 2) := by decide +kernel
theorem dX3_multiply_900 : decode cX3_multiply 900 = .ok (.lmul, 1) := by decide +kernel
theorem dX3_multiply_901 : decode cX3_multiply 901 = .ok (.ladd, 1) := by decide +kernel
theorem dX3_multiply_902 : decode cX3_multiply 902 = .ok (.lload 9, 2) := by decide +kernel
theorem dX3_multiply_904 : decode cX3_multiply 904 = .ok (.lload 33, 2) := by decide +kernel
theorem dX3_multiply_906 : decode cX3_multiply 906 = .ok (.lmul, 1) := by decide +kernel
theorem dX3_multiply_907 : decode cX3_multiply 907 = .ok (.ladd, 1) := by decide +kernel
theorem dX3_multiply_908 : decode cX3_multiply 908 = .ok (.lload 11, 2) := by decide +kernel
theorem dX3_multiply_910 : decode cX3_multiply 910 = .ok (.lload 31, 2) := by decide +kernel
theorem dX3_multiply_912 : decode cX3_multiply 912 = .ok (.lmul, 1) := by decide +kernel
theorem dX3_multiply_913 : decode cX3_multiply 913 = .ok (.ladd, 1) := by decide +kernel
theorem dX3_multiply_914 : decode cX3_multiply 914 = .ok (.lload 13, 2) := by decide +kernel
theorem dX3_multiply_916 : decode cX3_multiply 916 = .ok (.lload 29, 2) := by decide +kernel
theorem dX3_multiply_918 : decode cX3_multiply 918 = .ok (.lmul, 1) := by decide +kernel
theorem dX3_multiply_919 : decode cX3_multiply 919 = .ok (.ladd, 1) := by decide +kernel
theorem dX3_multiply_920 : decode cX3_multiply 920 = .ok (.lload 15, 2) := by decide +kernel
theorem dX3_multiply_922 : decode cX3_multiply 922 = .ok (.lload 27, 2) := by decide +kernel
theorem dX3_multiply_924 : decode cX3_multiply 924 = .ok (.lmul, 1) := by decide +kernel
theorem dX3_multiply_925 : decode cX3_multiply 925 = .ok (.ladd, 1) := by decide +kernel
theorem dX3_multiply_926 : decode cX3_multiply 926 = .ok (.lload 17, 2) := by decide +kernel
theorem dX3_multiply_928 : decode cX3_multiply 928 = .ok (.lload 25, 2) := by decide +kernel
theorem dX3_multiply_930 : decode cX3_multiply 930 = .ok (.lmul, 1) := by decide +kernel
theorem dX3_multiply_931 : decode cX3_multiply 931 = .ok (.ladd, 1) := by decide +kernel
theorem dX3_multiply_932 : decode cX3_multiply 932 = .ok (.lload 19, 2) := by decide +kernel
theorem dX3_multiply_934 : decode cX3_multiply 934 = .ok (.lload 23, 2) := by decide +kernel
theorem dX3_multiply_936 : decode cX3_multiply 936 = .ok (.lmul, 1) := by decide +kernel
theorem dX3_multiply_937 : decode cX3_multiply 937 = .ok (.ladd, 1) := by decide +kernel
theorem dX3_multiply_938 : decode cX3_multiply 938 = .ok (.ldc2_w 180, 3) := by decide +kernel
theorem dX3_multiply_941 : decode cX3_multiply 941 = .ok (.lload 71, 2) := by decide +kernel
theorem dX3_multiply_943 : decode cX3_multiply 943 = .ok (.lmul, 1) := by decide +kernel
theorem dX3_multiply_944 : decode cX3_multiply 944 = .ok (.ladd, 1) := by decide +kernel
theorem dX3_multiply_945 : decode cX3_multiply 945 = .ok (.ldc2_w 184, 3) := by decide +kernel
theorem dX3_multiply_948 : decode cX3_multiply 948 = .ok (.lload 69, 2) := by decide +kernel
theorem dX3_multiply_950 : decode cX3_multiply 950 = .ok (.lmul, 1) := by decide +kernel
theorem dX3_multiply_951 : decode cX3_multiply 951 = .ok (.ladd, 1) := by decide +kernel
theorem dX3_multiply_952 : decode cX3_multiply 952 = .ok (.lstore 75, 2) := by decide +kernel
theorem dX3_multiply_954 : decode cX3_multiply 954 = .ok (.aload 4, 2) := by decide +kernel
theorem dX3_multiply_956 : decode cX3_multiply 956 = .ok (.iload_n 1, 1) := by decide +kernel
theorem dX3_multiply_957 : decode cX3_multiply 957 = .ok (.bipush 7, 2) := by decide +kernel
theorem dX3_multiply_959 : decode cX3_multiply 959 = .ok (.iadd, 1) := by decide +kernel
theorem dX3_multiply_960 : decode cX3_multiply 960 = .ok (.lload 75, 2) := by decide +kernel
theorem dX3_multiply_962 : decode cX3_multiply 962 = .ok (.ldc2_w 178, 3) := by decide +kernel
theorem dX3_multiply_965 : decode cX3_multiply 965 = .ok (.land, 1) := by decide +kernel
theorem dX3_multiply_966 : decode cX3_multiply 966 = .ok (.lastore, 1) := by decide +kernel
theorem dX3_multiply_967 : decode cX3_multiply 967 = .ok (.lload 75, 2) := by decide +kernel
theorem dX3_multiply_969 : decode cX3_multiply 969 = .ok (.bipush 29, 2) := by decide +kernel
theorem dX3_multiply_971 : decode cX3_multiply 971 = .ok (.lushr, 1) := by decide +kernel
theorem dX3_multiply_972 : decode cX3_multiply 972 = .ok (.lload 5, 2) := by decide +kernel
theorem dX3_multiply_974 : decode cX3_multiply 974 = .ok (.lload 39, 2) := by decide +kernel
theorem dX3_multiply_976 : decode cX3_multiply 976 = .ok (.lmul, 1) := by decide +kernel
theorem dX3_multiply_977 : decode cX3_multiply 977 = .ok (.ladd, 1) := by decide +kernel
theorem dX3_multiply_978 : decode cX3_multiply 978 = .ok (.lload 7, 2) := by decide +kernel
theorem dX3_multiply_980 : decode cX3_multiply 980 = .ok (.lload 37, 2) := by decide +kernel
theorem dX3_multiply_982 : decode cX3_multiply 982 = .ok (.lmul, 1) := by decide +kernel
theorem dX3_multiply_983 : decode cX3_multiply 983 = .ok (.ladd, 1) := by decide +kernel
theorem dX3_multiply_984 : decode cX3_multiply 984 = .ok (.lload 9, 2) := by decide +kernel
theorem dX3_multiply_986 : decode cX3_multiply 986 = .ok (.lload 35, 2) := by decide +kernel
theorem dX3_multiply_988 : decode cX3_multiply 988 = .ok (.lmul, 1) := by decide +kernel
theorem dX3_multiply_989 : decode cX3_multiply 989 = .ok (.ladd, 1) := by decide +kernel
theorem dX3_multiply_990 : decode cX3_multiply 990 = .ok (.lload 11, 2) := by decide +kernel
theorem dX3_multiply_992 : decode cX3_multiply 992 = .ok (.lload 33, 2) := by decide +kernel
theorem dX3_multiply_994 : decode cX3_multiply 994 = .ok (.lmul, 1) := by decide +kernel
theorem dX3_multiply_995 : decode cX3_multiply 995 = .ok (.ladd, 1) := by decide +kernel
theorem dX3_multiply_996 : decode cX3_multiply 996 = .ok (.lload 13, 2) := by decide +kernel
theorem dX3_multiply_998 : decode cX3_multiply 998 = .ok (.lload 31, 2) := by decide +kernel
theorem dX3_multiply_1000 : decode cX3_multiply 1000 = .ok (.lmul, 1) := by decide +kernel
theorem dX3_multiply_1001 : decode cX3_multiply 1001 = .ok (.ladd, 1) := by decide +kernel
theorem dX3_multiply_1002 : decode cX3_multiply 1002 = .ok (.lload 15, 2) := by decide +kernel
theorem dX3_multiply_1004 : decode cX3_multiply 1004 = .ok (.lload 29, 2) := by decide +kernel
theorem dX3_multiply_1006 : decode cX3_multiply 1006 = .ok (.lmul, 1) := by decide +kernel
theorem dX3_multiply_1007 : decode cX3_multiply 1007 = .ok (.ladd, 1) := by decide +kernel
theorem dX3_multiply_1008 : decode cX3_multiply 1008 = .ok (.lload 17, 2) := by decide +kernel
theorem dX3_multiply_1010 : decode cX3_multiply 1010 = .ok (.lload 27, 2) := by decide +kernel
theorem dX3_multiply_1012 : decode cX3_multiply 1012 = .ok (.lmul, 1) := by decide +kernel
theorem dX3_multiply_1013 : decode cX3_multiply 1013 = .ok (.ladd, 1) := by decide +kernel
theorem dX3_multiply_1014 : decode cX3_multiply 1014 = .ok (.lload 19, 2) := by decide +kernel
theorem dX3_multiply_1016 : decode cX3_multiply 1016 = .ok (.lload 25, 2) := by decide +kernel
theorem dX3_multiply_1018 : decode cX3_multiply 1018 = .ok (.lmul, 1) := by decide +kernel
theorem dX3_multiply_1019 : decode cX3_multiply 1019 = .ok (.ladd, 1) := by decide +kernel
theorem dX3_multiply_1020 : decode cX3_multiply 1020 = .ok (.lload 21, 2) := by decide +kernel
theorem dX3_multiply_1022 : decode cX3_multiply 1022 = .ok (.lload 23, 2) := by decide +kernel
theorem dX3_multiply_1024 : decode cX3_multiply 1024 = .ok (.lmul, 1) := by decide +kernel
theorem dX3_multiply_1025 : decode cX3_multiply 1025 = .ok (.ladd, 1) := by decide +kernel
theorem dX3_multiply_1026 : decode cX3_multiply 1026 = .ok (.ldc2_w 180, 3) := by decide +kernel
theorem dX3_multiply_1029 : decode cX3_multiply 1029 = .ok (.lload 73, 2) := by decide +kernel
theorem dX3_multiply_1031 : decode cX3_multiply 1031 = .ok (.lmul, 1) := by decide +kernel
theorem dX3_multiply_1032 : decode cX3_multiply 1032 = .ok (.ladd, 1) := by decide +kernel
theorem dX3_multiply_1033 : decode cX3_multiply 1033 = .ok (.ldc2_w 184, 3) := by decide +kernel
theorem dX3_multiply_1036 : decode cX3_multiply 1036 = .ok (.lload 71, 2) := by decide +kernel
theorem dX3_multiply_1038 : decode cX3_multiply 1038 = .ok (.lmul, 1) := by decide +kernel
theorem dX3_multiply_1039 : decode cX3_multiply 1039 = .ok (.ladd, 1) := by decide +kernel
theorem dX3_multiply_1040 : decode cX3_multiply 1040 = .ok (.lstore 75, 2) := by decide +kernel
theorem dX3_multiply_1042 : decode cX3_multiply 1042 = .ok (.aload 4, 2) := by decide +kernel
theorem dX3_multiply_1044 : decode cX3_multiply 1044 = .ok (.iload_n 1, 1) := by decide +kernel
theorem dX3_multiply_1045 : decode cX3_multiply 1045 = .ok (.bipush 8, 2) := by decide +kernel
theorem dX3_multiply_1047 : decode cX3_multiply 1047 = .ok (.iadd, 1) := by decide +kernel
theorem dX3_multiply_1048 : decode cX3_multiply 1048 = .ok (.lload 75, 2) := by decide +kernel
theorem dX3_multiply_1050 : decode cX3_multiply 1050 = .ok (.ldc2_w 188, 3) := by decide +kernel
theorem dX3_multiply_1053 : decode cX3_multiply 1053 = .ok (.land, 1) := by decide +kernel
theorem dX3_multiply_1054 : decode cX3_multiply 1054 = .ok (.lastore, 1) := by decide +kernel
theorem dX3_multiply_1055 : decode cX3_multiply 1055 = .ok (.lload 75, 2) := by decide +kernel
theorem dX3_multiply_1057 : decode cX3_multiply 1057 = .ok (.bipush 24, 2) := by decide +kernel
theorem dX3_multiply_1059 : decode cX3_multiply 1059 = .ok (.lushr, 1) := by decide +kernel
theorem dX3_multiply_1060 : decode cX3_multiply 1060 = .ok (.lstore 75, 2) := by decide +kernel
theorem dX3_multiply_1062 : decode cX3_multiply 1062 = .ok (.lload 77, 2) := by decide +kernel
theorem dX3_multiply_1064 : decode cX3_multiply 1064 = .ok (.ldc2_w 190, 3) := by decide +kernel
theorem dX3_multiply_1067 : decode cX3_multiply 1067 = .ok (.lload 75, 2) := by decide +kernel
theorem dX3_multiply_1069 : decode cX3_multiply 1069 = .ok (.lmul, 1) := by decide +kernel
theorem dX3_multiply_1070 : decode cX3_multiply 1070 = .ok (.ladd, 1) := by decide +kernel
theorem dX3_multiply_1071 : decode cX3_multiply 1071 = .ok (.lstore 77, 2) := by decide +kernel
theorem dX3_multiply_1073 : decode cX3_multiply 1073 = .ok (.lload 79, 2) := by decide +kernel
theorem dX3_multiply_1075 : decode cX3_multiply 1075 = .ok (.ldc2_w 192, 3) := by decide +kernel
theorem dX3_multiply_1078 : decode cX3_multiply 1078 = .ok (.lload 75, 2) := by decide +kernel
theorem dX3_multiply_1080 : decode cX3_multiply 1080 = .ok (.lmul, 1) := by decide +kernel
theorem dX3_multiply_1081 : decode cX3_multiply 1081 = .ok (.lload 77, 2) := by decide +kernel
theorem dX3_multiply_1083 : decode cX3_multiply 1083 = .ok (.bipush 29, 2) := by decide +kernel
theorem dX3_multiply_1085 : decode cX3_multiply 1085 = .ok (.lushr, 1) := by decide +kernel
theorem dX3_multiply_1086 : decode cX3_multiply 1086 = .ok (.ladd, 1) := by decide +kernel
theorem dX3_multiply_1087 : decode cX3_multiply 1087 = .ok (.ladd, 1) := by decide +kernel
theorem dX3_multiply_1088 : decode cX3_multiply 1088 = .ok (.lstore 79, 2) := by decide +kernel
theorem dX3_multiply_1090 : decode cX3_multiply 1090 = .ok (.aload 4, 2) := by decide +kernel
theorem dX3_multiply_1092 : decode cX3_multiply 1092 = .ok (.iload_n 1, 1) := by decide +kernel
theorem dX3_multiply_1093 : decode cX3_multiply 1093 = .ok (.lload 77, 2) := by decide +kernel
theorem dX3_multiply_1095 : decode cX3_multiply 1095 = .ok (.ldc2_w 178, 3) := by decide +kernel
theorem dX3_multiply_1098 : decode cX3_multiply 1098 = .ok (.land, 1) := by decide +kernel
theorem dX3_multiply_1099 : decode cX3_multiply 1099 = .ok (.lastore, 1) := by decide +kernel
theorem dX3_multiply_1100 : decode cX3_multiply 1100 = .ok (.aload 4, 2) := by decide +kernel
theorem dX3_multiply_1102 : decode cX3_multiply 1102 = .ok (.iload_n 1, 1) := by decide +kernel
theorem dX3_multiply_1103 : decode cX3_multiply 1103 = .ok (.iconst 1, 1) := by decide +kernel
theorem dX3_multiply_1104 : decode cX3_multiply 1104 = .ok (.iadd, 1) := by decide +kernel
theorem dX3_multiply_1105 : decode cX3_multiply 1105 = .ok (.lload 79, 2) := by decide +kernel
theorem dX3_multiply_1107 : decode cX3_multiply 1107 = .ok (.ldc2_w 178, 3) := by decide +kernel
theorem dX3_multiply_1110 : decode cX3_multiply 1110 = .ok (.land, 1) := by decide +kernel
theorem dX3_multiply_1111 : decode cX3_multiply 1111 = .ok (.lastore, 1) := by decide +kernel
theorem dX3_multiply_1112 : decode cX3_multiply 1112 = .ok (.lload 79, 2) := by decide +kernel
theorem dX3_multiply_1114 : decode cX3_multiply 1114 = .ok (.bipush 29, 2) := by decide +kernel
theorem dX3_multiply_1116 : decode cX3_multiply 1116 = .ok (.lushr, 1) := by decide +kernel
theorem dX3_multiply_1117 : decode cX3_multiply 1117 = .ok (.lstore 75, 2) := by decide +kernel
theorem dX3_multiply_1119 : decode cX3_multiply 1119 = .ok (.iconst 2, 1) := by decide +kernel
theorem dX3_multiply_1120 : decode cX3_multiply 1120 = .ok (.istore 81, 2) := by decide +kernel
theorem dX3_multiply_1122 : decode cX3_multiply 1122 = .ok (.iload 81, 2) := by decide +kernel
theorem dX3_multiply_1124 : decode cX3_multiply 1124 = .ok (.bipush 9, 2) := by decide +kernel
theorem dX3_multiply_1126 : decode cX3_multiply 1126 = .ok (.if_icmp .ge 48, 3) := by decide +kernel
theorem dX3_multiply_1129 : decode cX3_multiply 1129 = .ok (.lload 75, 2) := by decide +kernel
theorem dX3_multiply_1131 : decode cX3_multiply 1131 = .ok (.lconst 0, 1) := by decide +kernel
theorem dX3_multiply_1132 : decode cX3_multiply 1132 = .ok (.lcmp, 1) := by decide +kernel
theorem dX3_multiply_1133 : decode cX3_multiply 1133 = .ok (.ifCond .eq 41, 3) := by decide +kernel
theorem dX3_multiply_1136 : decode cX3_multiply 1136 = .ok (.lload 75, 2) := by decide +kernel
theorem dX3_multiply_1138 : decode cX3_multiply 1138 = .ok (.aload 4, 2) := by decide +kernel
theorem dX3_multiply_1140 : decode cX3_multiply 1140 = .ok (.iload_n 1, 1) := by decide +kernel
theorem dX3_multiply_1141 : decode cX3_multiply 1141 = .ok (.iload 81, 2) := by decide +kernel
theorem dX3_multiply_1143 : decode cX3_multiply 1143 = .ok (.iadd, 1) := by decide +kernel
theorem dX3_multiply_1144 : decode cX3_multiply 1144 = .ok (.laload, 1) := by decide +kernel
theorem dX3_multiply_1145 : decode cX3_multiply 1145 = .ok (.ladd, 1) := by decide +kernel
theorem dX3_multiply_1146 : decode cX3_multiply 1146 = .ok (.lstore 75, 2) := by decide +kernel
theorem dX3_multiply_1148 : decode cX3_multiply 1148 = .ok (.aload 4, 2) := by decide +kernel
theorem dX3_multiply_1150 : decode cX3_multiply 1150 = .ok (.iload_n 1, 1) := by decide +kernel
theorem dX3_multiply_1151 : decode cX3_multiply 1151 = .ok (.iload 81, 2) := by decide +kernel
theorem dX3_multiply_1153 : decode cX3_multiply 1153 = .ok (.iadd, 1) := by decide +kernel
theorem dX3_multiply_1154 : decode cX3_multiply 1154 = .ok (.lload 75, 2) := by decide +kernel
theorem dX3_multiply_1156 : decode cX3_multiply 1156 = .ok (.ldc2_w 178, 3) := by decide +kernel
theorem dX3_multiply_1159 : decode cX3_multiply 1159 = .ok (.land, 1) := by decide +kernel
theorem dX3_multiply_1160 : decode cX3_multiply 1160 = .ok (.lastore, 1) := by decide +kernel
theorem dX3_multiply_1161 : decode cX3_multiply 1161 = .ok (.lload 75, 2) := by decide +kernel
theorem dX3_multiply_1163 : decode cX3_multiply 1163 = .ok (.bipush 29, 2) := by decide +kernel
theorem dX3_multiply_1165 : decode cX3_multiply 1165 = .ok (.lushr, 1) := by decide +kernel
theorem dX3_multiply_1166 : decode cX3_multiply 1166 = .ok (.lstore 75, 2) := by decide +kernel
theorem dX3_multiply_1168 : decode cX3_multiply 1168 = .ok (.iinc 81 1, 3) := by decide +kernel
theorem dX3_multiply_1171 : decode cX3_multiply 1171 = .ok (.goto (-49), 3) := by decide +kernel
theorem dX3_multiply_1174 : decode cX3_multiply 1174 = .ok (.aload_n 0, 1) := by decide +kernel
theorem dX3_multiply_1175 : decode cX3_multiply 1175 = .ok (.getfield 18, 3) := by decide +kernel
theorem dX3_multiply_1178 : decode cX3_multiply 1178 = .ok (.getfield 132, 3) := by decide +kernel
theorem dX3_multiply_1181 : decode cX3_multiply 1181 = .ok (.istore 81, 2) := by decide +kernel
theorem dX3_multiply_1183 : decode cX3_multiply 1183 = .ok (.bipush 8, 2) := by decide +kernel
theorem dX3_multiply_1185 : decode cX3_multiply 1185 = .ok (.istore 82, 2) := by decide +kernel
theorem dX3_multiply_1187 : decode cX3_multiply 1187 = .ok (.iload 82, 2) := by decide +kernel
theorem dX3_multiply_1189 : decode cX3_multiply 1189 = .ok (.ifCond .le 28, 3) := by decide +kernel
theorem dX3_multiply_1192 : decode cX3_multiply 1192 = .ok (.aload 4, 2) := by decide +kernel
theorem dX3_multiply_1194 : decode cX3_multiply 1194 = .ok (.iload_n 1, 1) := by decide +kernel
theorem dX3_multiply_1195 : decode cX3_multiply 1195 = .ok (.iload 82, 2) := by decide +kernel
theorem dX3_multiply_1197 : decode cX3_multiply 1197 = .ok (.iadd, 1) := by decide +kernel
theorem dX3_multiply_1198 : decode cX3_multiply 1198 = .ok (.laload, 1) := by decide +kernel
theorem dX3_multiply_1199 : decode cX3_multiply 1199 = .ok (.aload 4, 2) := by decide +kernel
theorem dX3_multiply_1201 : decode cX3_multiply 1201 = .ok (.iload 81, 2) := by decide +kernel
theorem dX3_multiply_1203 : decode cX3_multiply 1203 = .ok (.iload 82, 2) := by decide +kernel
theorem dX3_multiply_1205 : decode cX3_multiply 1205 = .ok (.iadd, 1) := by decide +kernel
theorem dX3_multiply_1206 : decode cX3_multiply 1206 = .ok (.laload, 1) := by decide +kernel
theorem dX3_multiply_1207 : decode cX3_multiply 1207 = .ok (.lcmp, 1) := by decide +kernel
theorem dX3_multiply_1208 : decode cX3_multiply 1208 = .ok (.ifCond .ne 9, 3) := by decide +kernel
theorem dX3_multiply_1211 : decode cX3_multiply 1211 = .ok (.iinc 82 (-1), 3) := by decide +kernel
theorem dX3_multiply_1214 : decode cX3_multiply 1214 = .ok (.goto (-27), 3) := by decide +kernel
theorem dX3_multiply_1217 : decode cX3_multiply 1217 = .ok (.aload 4, 2) := by decide +kernel
theorem dX3_multiply_1219 : decode cX3_multiply 1219 = .ok (.iload_n 1, 1) := by decide +kernel
theorem dX3_multiply_1220 : decode cX3_multiply 1220 = .ok (.iload 82, 2) := by decide +kernel
theorem dX3_multiply_1222 : decode cX3_multiply 1222 = .ok (.iadd, 1) := by decide +kernel
theorem dX3_multiply_1223 : decode cX3_multiply 1223 = .ok (.laload, 1) := by decide +kernel
theorem dX3_multiply_1224 : decode cX3_multiply 1224 = .ok (.aload 4, 2) := by decide +kernel
theorem dX3_multiply_1226 : decode cX3_multiply 1226 = .ok (.iload 81, 2) := by decide +kernel
theorem dX3_multiply_1228 : decode cX3_multiply 1228 = .ok (.iload 82, 2) := by decide +kernel
theorem dX3_multiply_1230 : decode cX3_multiply 1230 = .ok (.iadd, 1) := by decide +kernel
theorem dX3_multiply_1231 : decode cX3_multiply 1231 = .ok (.laload, 1) := by decide +kernel
theorem dX3_multiply_1232 : decode cX3_multiply 1232 = .ok (.lcmp, 1) := by decide +kernel
theorem dX3_multiply_1233 : decode cX3_multiply 1233 = .ok (.ifCond .lt 7, 3) := by decide +kernel
theorem dX3_multiply_1236 : decode cX3_multiply 1236 = .ok (.iconst 1, 1) := by decide +kernel
theorem dX3_multiply_1237 : decode cX3_multiply 1237 = .ok (.goto 4, 3) := by decide +kernel
theorem dX3_multiply_1240 : decode cX3_multiply 1240 = .ok (.iconst 0, 1) := by decide +kernel
theorem dX3_multiply_1241 : decode cX3_multiply 1241 = .ok (.istore 83, 2) := by decide +kernel
theorem dX3_multiply_1243 : decode cX3_multiply 1243 = .ok (.lconst 0, 1) := by decide +kernel
theorem dX3_multiply_1244 : decode cX3_multiply 1244 = .ok (.lstore 75, 2) := by decide +kernel
theorem dX3_multiply_1246 : decode cX3_multiply 1246 = .ok (.iconst 0, 1) := by decide +kernel
theorem dX3_multiply_1247 : decode cX3_multiply 1247 = .ok (.istore 84, 2) := by decide +kernel
theorem dX3_multiply_1249 : decode cX3_multiply 1249 = .ok (.iload 84, 2) := by decide +kernel
theorem dX3_multiply_1251 : decode cX3_multiply 1251 = .ok (.bipush 9, 2) := by decide +kernel
theorem dX3_multiply_1253 : decode cX3_multiply 1253 = .ok (.if_icmp .ge 55, 3) := by decide +kernel
theorem dX3_multiply_1256 : decode cX3_multiply 1256 = .ok (.iload 83, 2) := by decide +kernel
theorem dX3_multiply_1258 : decode cX3_multiply 1258 = .ok (.ifCond .eq 50, 3) := by decide +kernel
theorem dX3_multiply_1261 : decode cX3_multiply 1261 = .ok (.lload 75, 2) := by decide +kernel
theorem dX3_multiply_1263 : decode cX3_multiply 1263 = .ok (.aload 4, 2) := by decide +kernel
theorem dX3_multiply_1265 : decode cX3_multiply 1265 = .ok (.iload_n 1, 1) := by decide +kernel
theorem dX3_multiply_1266 : decode cX3_multiply 1266 = .ok (.iload 84, 2) := by decide +kernel
theorem dX3_multiply_1268 : decode cX3_multiply 1268 = .ok (.iadd, 1) := by decide +kernel
theorem dX3_multiply_1269 : decode cX3_multiply 1269 = .ok (.laload, 1) := by decide +kernel
theorem dX3_multiply_1270 : decode cX3_multiply 1270 = .ok (.aload 4, 2) := by decide +kernel
theorem dX3_multiply_1272 : decode cX3_multiply 1272 = .ok (.iload 81, 2) := by decide +kernel
theorem dX3_multiply_1274 : decode cX3_multiply 1274 = .ok (.iload 84, 2) := by decide +kernel
theorem dX3_multiply_1276 : decode cX3_multiply 1276 = .ok (.iadd, 1) := by decide +kernel
theorem dX3_multiply_1277 : decode cX3_multiply 1277 = .ok (.laload, 1) := by decide +kernel
theorem dX3_multiply_1278 : decode cX3_multiply 1278 = .ok (.lsub, 1) := by decide +kernel
theorem dX3_multiply_1279 : decode cX3_multiply 1279 = .ok (.ladd, 1) := by decide +kernel
theorem dX3_multiply_1280 : decode cX3_multiply 1280 = .ok (.lstore 75, 2) := by decide +kernel
theorem dX3_multiply_1282 : decode cX3_multiply 1282 = .ok (.aload 4, 2) := by decide +kernel
theorem dX3_multiply_1284 : decode cX3_multiply 1284 = .ok (.iload_n 1, 1) := by decide +kernel
theorem dX3_multiply_1285 : decode cX3_multiply 1285 = .ok (.iload 84, 2) := by decide +kernel
theorem dX3_multiply_1287 : decode cX3_multiply 1287 = .ok (.iadd, 1) := by decide +kernel
theorem dX3_multiply_1288 : decode cX3_multiply 1288 = .ok (.lload 75, 2) := by decide +kernel
theorem dX3_multiply_1290 : decode cX3_multiply 1290 = .ok (.ldc2_w 178, 3) := by decide +kernel
theorem dX3_multiply_1293 : decode cX3_multiply 1293 = .ok (.land, 1) := by decide +kernel
theorem dX3_multiply_1294 : decode cX3_multiply 1294 = .ok (.lastore, 1) := by decide +kernel
theorem dX3_multiply_1295 : decode cX3_multiply 1295 = .ok (.lload 75, 2) := by decide +kernel
theorem dX3_multiply_1297 : decode cX3_multiply 1297 = .ok (.bipush 29, 2) := by decide +kernel
theorem dX3_multiply_1299 : decode cX3_multiply 1299 = .ok (.lshr, 1) := by decide +kernel
theorem dX3_multiply_1300 : decode cX3_multiply 1300 = .ok (.lstore 75, 2) := by decide +kernel
theorem dX3_multiply_1302 : decode cX3_multiply 1302 = .ok (.iinc 84 1, 3) := by decide +kernel
theorem dX3_multiply_1305 : decode cX3_multiply 1305 = .ok (.goto (-56), 3) := by decide +kernel
theorem dX3_multiply_1308 : decode cX3_multiply 1308 = .ok (.return_, 1) := by decide +kernel
set_option maxRecDepth 100000 in
theorem kx_53 : (Jvm.Cond.fieldLink "CoinJudge$Curve" (113 : Nat) "CoinJudge$Buffer" "bytes" "[B") ∈ lw_tbl := List.mem_append_right _ (List.mem_of_getElem? (i := 53) (by rfl))
set_option maxRecDepth 100000 in
theorem kx_61 : (Jvm.Cond.fieldLink "CoinJudge$Curve" (116 : Nat) "CoinJudge$Buffer" "length" "I") ∈ lw_tbl := List.mem_append_right _ (List.mem_of_getElem? (i := 61) (by rfl))
set_option maxRecDepth 100000 in
theorem kx_105 : (Jvm.Cond.code ({ cls := "CoinJudge$Curve", name := "<init>", desc := "()V" } : Jvm.MethodName) prog_5_method_1_code (1 : Nat) (Option.none : Option Jvm.ClassFile.FieldType)) ∈ lw_tbl := List.mem_append_right _ (List.mem_of_getElem? (i := 105) (by rfl))
set_option maxRecDepth 100000 in
theorem kx_106 : (Jvm.Cond.methodLink "CoinJudge$Curve" (3 : Nat) ({ cls := "java/lang/Object", name := "<init>", desc := "()V" } : Jvm.MethodName)) ∈ lw_tbl := List.mem_append_right _ (List.mem_of_getElem? (i := 106) (by rfl))
set_option maxRecDepth 100000 in
theorem kx_107 : (Jvm.Cond.classLink "CoinJudge$Curve" (9 : Nat) "CoinJudge$Field") ∈ lw_tbl := List.mem_append_right _ (List.mem_of_getElem? (i := 107) (by rfl))
set_option maxRecDepth 100000 in
theorem kx_108 : (Jvm.Cond.instantiable "CoinJudge$Field" (6 : Nat)) ∈ lw_tbl := List.mem_append_right _ (List.mem_of_getElem? (i := 108) (by rfl))
set_option maxRecDepth 100000 in
theorem kx_109 : (Jvm.Cond.fieldLink "CoinJudge$Curve" (11 : Nat) "CoinJudge$Curve" "PRIME" "[I") ∈ lw_tbl := List.mem_append_right _ (List.mem_of_getElem? (i := 109) (by rfl))
set_option maxRecDepth 100000 in
theorem kx_111 : (Jvm.Cond.methodLink "CoinJudge$Curve" (15 : Nat) ({ cls := "CoinJudge$Field", name := "<init>", desc := "([II)V" } : Jvm.MethodName)) ∈ lw_tbl := List.mem_append_right _ (List.mem_of_getElem? (i := 111) (by rfl))
set_option maxRecDepth 100000 in
theorem kx_112 : (Jvm.Cond.instanceMethod ({ cls := "CoinJudge$Field", name := "<init>", desc := "([II)V" } : Jvm.MethodName)) ∈ lw_tbl := List.mem_append_right _ (List.mem_of_getElem? (i := 112) (by rfl))
set_option maxRecDepth 100000 in
theorem kx_122 : (Jvm.Cond.fieldLink "CoinJudge$Curve" (145 : Nat) "CoinJudge$Field" "cells" "[J") ∈ lw_tbl := List.mem_append_right _ (List.mem_of_getElem? (i := 122) (by rfl))
set_option maxRecDepth 100000 in
theorem kx_124 : (Jvm.Cond.fieldLink "CoinJudge$Curve" (132 : Nat) "CoinJudge$Field" "modulus" "I") ∈ lw_tbl := List.mem_append_right _ (List.mem_of_getElem? (i := 124) (by rfl))
set_option maxRecDepth 100000 in
theorem kx_143 : (Jvm.Cond.fieldLink "CoinJudge$Curve" (22 : Nat) "CoinJudge$Curve" "ORDER" "[I") ∈ lw_tbl := List.mem_append_right _ (List.mem_of_getElem? (i := 143) (by rfl))
set_option maxRecDepth 100000 in
theorem kx_145 : (Jvm.Cond.methodLink "CoinJudge$Curve" (32 : Nat) ({ cls := "CoinJudge$Field", name := "loadSmall", desc := "(II)V" } : Jvm.MethodName)) ∈ lw_tbl := List.mem_append_right _ (List.mem_of_getElem? (i := 145) (by rfl))
set_option maxRecDepth 100000 in
theorem kx_489 : (Jvm.Cond.fieldLink "CoinJudge$Curve" (36 : Nat) "CoinJudge$Curve" "BASE_X" "[I") ∈ lw_tbl := List.mem_append_right _ (List.mem_of_getElem? (i := 489) (by rfl))
set_option maxRecDepth 100000 in
theorem kx_491 : (Jvm.Cond.methodLink "CoinJudge$Curve" (39 : Nat) ({ cls := "CoinJudge$Field", name := "loadWords", desc := "(I[I)V" } : Jvm.MethodName)) ∈ lw_tbl := List.mem_append_right _ (List.mem_of_getElem? (i := 491) (by rfl))
set_option maxRecDepth 100000 in
theorem kx_492 : (Jvm.Cond.fieldLink "CoinJudge$Curve" (43 : Nat) "CoinJudge$Curve" "BASE_Y" "[I") ∈ lw_tbl := List.mem_append_right _ (List.mem_of_getElem? (i := 492) (by rfl))
set_option maxRecDepth 100000 in
theorem kx_494 : (Jvm.Cond.methodLink "CoinJudge$Curve" (46 : Nat) ({ cls := "CoinJudge$Curve", name := "fillMultiples", desc := "(I)V" } : Jvm.MethodName)) ∈ lw_tbl := List.mem_append_right _ (List.mem_of_getElem? (i := 494) (by rfl))
set_option maxRecDepth 100000 in
theorem kx_498 : (Jvm.Cond.methodLink "CoinJudge$Curve" (155 : Nat) ({ cls := "CoinJudge$Curve", name := "doublePoint", desc := "(II)V" } : Jvm.MethodName)) ∈ lw_tbl := List.mem_append_right _ (List.mem_of_getElem? (i := 498) (by rfl))
set_option maxRecDepth 100000 in
theorem kx_500 : (Jvm.Cond.instanceMethod ({ cls := "CoinJudge$Curve", name := "doublePoint", desc := "(II)V" } : Jvm.MethodName)) ∈ lw_tbl := List.mem_append_right _ (List.mem_of_getElem? (i := 500) (by rfl))
set_option maxRecDepth 100000 in
theorem kx_501 : (Jvm.Cond.code ({ cls := "CoinJudge$Curve", name := "doublePoint", desc := "(II)V" } : Jvm.MethodName) prog_5_method_15_code (3 : Nat) (Option.none : Option Jvm.ClassFile.FieldType)) ∈ lw_tbl := List.mem_append_right _ (List.mem_of_getElem? (i := 501) (by rfl))
set_option maxRecDepth 100000 in
theorem kx_502 : (Jvm.Cond.methodLink "CoinJudge$Curve" (54 : Nat) ({ cls := "CoinJudge$Curve", name := "multiply", desc := "(III)V" } : Jvm.MethodName)) ∈ lw_tbl := List.mem_append_right _ (List.mem_of_getElem? (i := 502) (by rfl))
set_option maxRecDepth 100000 in
theorem kx_504 : (Jvm.Cond.instanceMethod ({ cls := "CoinJudge$Curve", name := "multiply", desc := "(III)V" } : Jvm.MethodName)) ∈ lw_tbl := List.mem_append_right _ (List.mem_of_getElem? (i := 504) (by rfl))
set_option maxRecDepth 100000 in
theorem kx_505 : (Jvm.Cond.code ({ cls := "CoinJudge$Curve", name := "multiply", desc := "(III)V" } : Jvm.MethodName) prog_5_method_17_code (85 : Nat) (Option.none : Option Jvm.ClassFile.FieldType)) ∈ lw_tbl := List.mem_append_right _ (List.mem_of_getElem? (i := 505) (by rfl))
set_option maxRecDepth 100000 in
theorem kx_506 : (Jvm.Cond.constantLong "CoinJudge$Curve" (178 : Nat) (536870911 : Int64)) ∈ lw_tbl := List.mem_append_right _ (List.mem_of_getElem? (i := 506) (by rfl))
set_option maxRecDepth 100000 in
theorem kx_507 : (Jvm.Cond.constantLong "CoinJudge$Curve" (180 : Nat) (31264 : Int64)) ∈ lw_tbl := List.mem_append_right _ (List.mem_of_getElem? (i := 507) (by rfl))
set_option maxRecDepth 100000 in
theorem kx_508 : (Jvm.Cond.constantLong "CoinJudge$Curve" (182 : Nat) (8003584 : Int64)) ∈ lw_tbl := List.mem_append_right _ (List.mem_of_getElem? (i := 508) (by rfl))
set_option maxRecDepth 100000 in
theorem kx_509 : (Jvm.Cond.constantLong "CoinJudge$Curve" (184 : Nat) (256 : Int64)) ∈ lw_tbl := List.mem_append_right _ (List.mem_of_getElem? (i := 509) (by rfl))
set_option maxRecDepth 100000 in
theorem kx_510 : (Jvm.Cond.constantLong "CoinJudge$Curve" (186 : Nat) (65536 : Int64)) ∈ lw_tbl := List.mem_append_right _ (List.mem_of_getElem? (i := 510) (by rfl))
set_option maxRecDepth 100000 in
theorem kx_511 : (Jvm.Cond.constantLong "CoinJudge$Curve" (188 : Nat) (16777215 : Int64)) ∈ lw_tbl := List.mem_append_right _ (List.mem_of_getElem? (i := 511) (by rfl))
set_option maxRecDepth 100000 in
theorem kx_512 : (Jvm.Cond.constantLong "CoinJudge$Curve" (190 : Nat) (977 : Int64)) ∈ lw_tbl := List.mem_append_right _ (List.mem_of_getElem? (i := 512) (by rfl))
set_option maxRecDepth 100000 in
theorem kx_513 : (Jvm.Cond.constantLong "CoinJudge$Curve" (192 : Nat) (8 : Int64)) ∈ lw_tbl := List.mem_append_right _ (List.mem_of_getElem? (i := 513) (by rfl))
set_option maxRecDepth 100000 in
theorem kx_514 : (Jvm.Cond.methodLink "CoinJudge$Curve" (139 : Nat) ({ cls := "CoinJudge$Field", name := "add", desc := "(III)V" } : Jvm.MethodName)) ∈ lw_tbl := List.mem_append_right _ (List.mem_of_getElem? (i := 514) (by rfl))
set_option maxRecDepth 100000 in
theorem kx_515 : (Jvm.Cond.instanceMethod ({ cls := "CoinJudge$Field", name := "add", desc := "(III)V" } : Jvm.MethodName)) ∈ lw_tbl := List.mem_append_right _ (List.mem_of_getElem? (i := 515) (by rfl))
set_option maxRecDepth 100000 in
theorem kx_516 : (Jvm.Cond.selects "CoinJudge$Field" ({ cls := "CoinJudge$Field", name := "add", desc := "(III)V" } : Jvm.MethodName) ({ cls := "CoinJudge$Field", name := "add", desc := "(III)V" } : Jvm.MethodName)) ∈ lw_tbl := List.mem_append_right _ (List.mem_of_getElem? (i := 516) (by rfl))
set_option maxRecDepth 100000 in
theorem kx_518 : (Jvm.Cond.methodLink "CoinJudge$Curve" (149 : Nat) ({ cls := "CoinJudge$Field", name := "subtract", desc := "(III)V" } : Jvm.MethodName)) ∈ lw_tbl := List.mem_append_right _ (List.mem_of_getElem? (i := 518) (by rfl))
set_option maxRecDepth 100000 in
theorem kx_522 : (Jvm.Cond.methodLink "CoinJudge$Curve" (158 : Nat) ({ cls := "CoinJudge$Curve", name := "addPoints", desc := "(III)Z" } : Jvm.MethodName)) ∈ lw_tbl := List.mem_append_right _ (List.mem_of_getElem? (i := 522) (by rfl))
set_option maxRecDepth 100000 in
theorem kx_524 : (Jvm.Cond.instanceMethod ({ cls := "CoinJudge$Curve", name := "addPoints", desc := "(III)Z" } : Jvm.MethodName)) ∈ lw_tbl := List.mem_append_right _ (List.mem_of_getElem? (i := 524) (by rfl))
set_option maxRecDepth 100000 in
theorem kx_525 : (Jvm.Cond.code ({ cls := "CoinJudge$Curve", name := "addPoints", desc := "(III)Z" } : Jvm.MethodName) prog_5_method_16_code (4 : Nat) (Option.some Jvm.ClassFile.FieldType.boolean)) ∈ lw_tbl := List.mem_append_right _ (List.mem_of_getElem? (i := 525) (by rfl))
set_option maxRecDepth 100000 in
theorem kx_526 : (Jvm.Cond.methodLink "CoinJudge$Curve" (166 : Nat) ({ cls := "CoinJudge$Field", name := "isZero", desc := "(I)Z" } : Jvm.MethodName)) ∈ lw_tbl := List.mem_append_right _ (List.mem_of_getElem? (i := 526) (by rfl))
set_option maxRecDepth 100000 in
theorem kx_530 : (Jvm.Cond.methodLink "CoinJudge$Curve" (175 : Nat) ({ cls := "CoinJudge$Field", name := "copy", desc := "(III)V" } : Jvm.MethodName)) ∈ lw_tbl := List.mem_append_right _ (List.mem_of_getElem? (i := 530) (by rfl))
set_option maxRecDepth 100000 in
theorem kx_535 : (Jvm.Cond.fieldLink "CoinJudge$Curve" (18 : Nat) "CoinJudge$Curve" "field" "LCoinJudge$Field;") ∈ lw_tbl := List.mem_append_right _ (List.mem_of_getElem? (i := 535) (by rfl))
set_option maxRecDepth 100000 in
theorem kx_536 : (Jvm.Cond.fieldLink "CoinJudge$Curve" (25 : Nat) "CoinJudge$Curve" "scalars" "LCoinJudge$Field;") ∈ lw_tbl := List.mem_append_right _ (List.mem_of_getElem? (i := 536) (by rfl))
set_option maxRecDepth 100000 in
theorem kx_537 : (Jvm.Cond.fieldLink "CoinJudge$Curve" (28 : Nat) "CoinJudge$Curve" "row" "[B") ∈ lw_tbl := List.mem_append_right _ (List.mem_of_getElem? (i := 537) (by rfl))
set_option maxRecDepth 100000 in
theorem kx_538 : (Jvm.Cond.fieldLink "CoinJudge$Curve" (128 : Nat) "CoinJudge$Curve" "inRange" "Z") ∈ lw_tbl := List.mem_append_right _ (List.mem_of_getElem? (i := 538) (by rfl))
set_option maxRecDepth 100000 in
theorem kx_1181 : (Jvm.Cond.code ({ cls := "CoinJudge$Curve", name := "writeKey", desc := "(IZLCoinJudge$Buffer;)V" } : Jvm.MethodName) prog_5_method_2_code (4 : Nat) (Option.none : Option Jvm.ClassFile.FieldType)) ∈ lw_tbl := List.mem_append_right _ (List.mem_of_getElem? (i := 1181) (by rfl))
set_option maxRecDepth 100000 in
theorem kx_1182 : (Jvm.Cond.methodLink "CoinJudge$Curve" (50 : Nat) ({ cls := "CoinJudge$Curve", name := "sum", desc := "(Z)V" } : Jvm.MethodName)) ∈ lw_tbl := List.mem_append_right _ (List.mem_of_getElem? (i := 1182) (by rfl))
set_option maxRecDepth 100000 in
theorem kx_1186 : (Jvm.Cond.methodLink "CoinJudge$Curve" (162 : Nat) ({ cls := "CoinJudge$Field", name := "bitsAt", desc := "(II)J" } : Jvm.MethodName)) ∈ lw_tbl := List.mem_append_right _ (List.mem_of_getElem? (i := 1186) (by rfl))
set_option maxRecDepth 100000 in
theorem kx_1190 : (Jvm.Cond.methodLink "CoinJudge$Curve" (58 : Nat) ({ cls := "CoinJudge$Field", name := "divide", desc := "(III)V" } : Jvm.MethodName)) ∈ lw_tbl := List.mem_append_right _ (List.mem_of_getElem? (i := 1190) (by rfl))
set_option maxRecDepth 100000 in
theorem kx_1191 : (Jvm.Cond.instanceMethod ({ cls := "CoinJudge$Field", name := "divide", desc := "(III)V" } : Jvm.MethodName)) ∈ lw_tbl := List.mem_append_right _ (List.mem_of_getElem? (i := 1191) (by rfl))
set_option maxRecDepth 100000 in
theorem kx_1192 : (Jvm.Cond.selects "CoinJudge$Field" ({ cls := "CoinJudge$Field", name := "divide", desc := "(III)V" } : Jvm.MethodName) ({ cls := "CoinJudge$Field", name := "divide", desc := "(III)V" } : Jvm.MethodName)) ∈ lw_tbl := List.mem_append_right _ (List.mem_of_getElem? (i := 1192) (by rfl))
set_option maxRecDepth 100000 in
theorem kx_1210 : (Jvm.Cond.methodLink "CoinJudge$Curve" (61 : Nat) ({ cls := "CoinJudge$Field", name := "store", desc := "(I[BI)V" } : Jvm.MethodName)) ∈ lw_tbl := List.mem_append_right _ (List.mem_of_getElem? (i := 1210) (by rfl))
set_option maxRecDepth 100000 in
theorem kx_1211 : (Jvm.Cond.instanceMethod ({ cls := "CoinJudge$Field", name := "store", desc := "(I[BI)V" } : Jvm.MethodName)) ∈ lw_tbl := List.mem_append_right _ (List.mem_of_getElem? (i := 1211) (by rfl))
set_option maxRecDepth 100000 in
theorem kx_1212 : (Jvm.Cond.selects "CoinJudge$Field" ({ cls := "CoinJudge$Field", name := "store", desc := "(I[BI)V" } : Jvm.MethodName) ({ cls := "CoinJudge$Field", name := "store", desc := "(I[BI)V" } : Jvm.MethodName)) ∈ lw_tbl := List.mem_append_right _ (List.mem_of_getElem? (i := 1212) (by rfl))
set_option maxRecDepth 100000 in
theorem kx_1215 : (Jvm.Cond.constantLong "CoinJudge$Curve" (65 : Nat) (4 : Int64)) ∈ lw_tbl := List.mem_append_right _ (List.mem_of_getElem? (i := 1215) (by rfl))
set_option maxRecDepth 100000 in
theorem kx_1216 : (Jvm.Cond.methodLink "CoinJudge$Curve" (67 : Nat) ({ cls := "CoinJudge$Buffer", name := "addNumber", desc := "(JI)V" } : Jvm.MethodName)) ∈ lw_tbl := List.mem_append_right _ (List.mem_of_getElem? (i := 1216) (by rfl))
set_option maxRecDepth 100000 in
theorem kx_1217 : (Jvm.Cond.methodLink "CoinJudge$Curve" (73 : Nat) ({ cls := "CoinJudge$Buffer", name := "addBytes", desc := "([BII)V" } : Jvm.MethodName)) ∈ lw_tbl := List.mem_append_right _ (List.mem_of_getElem? (i := 1217) (by rfl))
set_option maxRecDepth 100000 in
theorem kx_1361 : (Jvm.Cond.code ({ cls := "CoinJudge$Curve", name := "writeSignature", desc := "(II[BLCoinJudge$Hasher;LCoinJudge$Buffer;)V" } : Jvm.MethodName) prog_5_method_3_code (7 : Nat) (Option.none : Option Jvm.ClassFile.FieldType)) ∈ lw_tbl := List.mem_append_right _ (List.mem_of_getElem? (i := 1361) (by rfl))
set_option maxRecDepth 100000 in
theorem kx_1362 : (Jvm.Cond.methodLink "CoinJudge$Curve" (77 : Nat) ({ cls := "java/util/Arrays", name := "fill", desc := "([BIIB)V" } : Jvm.MethodName)) ∈ lw_tbl := List.mem_append_right _ (List.mem_of_getElem? (i := 1362) (by rfl))
set_option maxRecDepth 100000 in
theorem kx_1363 : (Jvm.Cond.methodLink "CoinJudge$Curve" (83 : Nat) ({ cls := "java/lang/System", name := "arraycopy", desc := "(Ljava/lang/Object;ILjava/lang/Object;II)V" } : Jvm.MethodName)) ∈ lw_tbl := List.mem_append_right _ (List.mem_of_getElem? (i := 1363) (by rfl))
set_option maxRecDepth 100000 in
theorem kx_1364 : (Jvm.Cond.methodLink "CoinJudge$Curve" (89 : Nat) ({ cls := "CoinJudge$Hasher", name := "sha", desc := "([BII[BI)V" } : Jvm.MethodName)) ∈ lw_tbl := List.mem_append_right _ (List.mem_of_getElem? (i := 1364) (by rfl))
set_option maxRecDepth 100000 in
theorem kx_1365 : (Jvm.Cond.methodLink "CoinJudge$Curve" (95 : Nat) ({ cls := "CoinJudge$Field", name := "load", desc := "(I[BI)V" } : Jvm.MethodName)) ∈ lw_tbl := List.mem_append_right _ (List.mem_of_getElem? (i := 1365) (by rfl))
set_option maxRecDepth 100000 in
theorem kx_1366 : (Jvm.Cond.instanceMethod ({ cls := "CoinJudge$Field", name := "load", desc := "(I[BI)V" } : Jvm.MethodName)) ∈ lw_tbl := List.mem_append_right _ (List.mem_of_getElem? (i := 1366) (by rfl))
set_option maxRecDepth 100000 in
theorem kx_1367 : (Jvm.Cond.selects "CoinJudge$Field" ({ cls := "CoinJudge$Field", name := "load", desc := "(I[BI)V" } : Jvm.MethodName) ({ cls := "CoinJudge$Field", name := "load", desc := "(I[BI)V" } : Jvm.MethodName)) ∈ lw_tbl := List.mem_append_right _ (List.mem_of_getElem? (i := 1367) (by rfl))
set_option maxRecDepth 100000 in
theorem kx_1370 : (Jvm.Cond.methodLink "CoinJudge$Curve" (98 : Nat) ({ cls := "CoinJudge$Field", name := "reduce", desc := "(I)V" } : Jvm.MethodName)) ∈ lw_tbl := List.mem_append_right _ (List.mem_of_getElem? (i := 1370) (by rfl))
set_option maxRecDepth 100000 in
theorem kx_1371 : (Jvm.Cond.instanceMethod ({ cls := "CoinJudge$Field", name := "reduce", desc := "(I)V" } : Jvm.MethodName)) ∈ lw_tbl := List.mem_append_right _ (List.mem_of_getElem? (i := 1371) (by rfl))
set_option maxRecDepth 100000 in
theorem kx_1372 : (Jvm.Cond.selects "CoinJudge$Field" ({ cls := "CoinJudge$Field", name := "reduce", desc := "(I)V" } : Jvm.MethodName) ({ cls := "CoinJudge$Field", name := "reduce", desc := "(I)V" } : Jvm.MethodName)) ∈ lw_tbl := List.mem_append_right _ (List.mem_of_getElem? (i := 1372) (by rfl))
set_option maxRecDepth 100000 in
theorem kx_1374 : (Jvm.Cond.methodLink "CoinJudge$Curve" (101 : Nat) ({ cls := "CoinJudge$Curve", name := "addTimes", desc := "(III)V" } : Jvm.MethodName)) ∈ lw_tbl := List.mem_append_right _ (List.mem_of_getElem? (i := 1374) (by rfl))
set_option maxRecDepth 100000 in
theorem kx_1376 : (Jvm.Cond.instanceMethod ({ cls := "CoinJudge$Curve", name := "addTimes", desc := "(III)V" } : Jvm.MethodName)) ∈ lw_tbl := List.mem_append_right _ (List.mem_of_getElem? (i := 1376) (by rfl))
set_option maxRecDepth 100000 in
theorem kx_1377 : (Jvm.Cond.code ({ cls := "CoinJudge$Curve", name := "addTimes", desc := "(III)V" } : Jvm.MethodName) prog_5_method_13_code (5 : Nat) (Option.none : Option Jvm.ClassFile.FieldType)) ∈ lw_tbl := List.mem_append_right _ (List.mem_of_getElem? (i := 1377) (by rfl))
set_option maxRecDepth 100000 in
theorem kx_1378 : (Jvm.Cond.methodLink "CoinJudge$Curve" (104 : Nat) ({ cls := "CoinJudge$Buffer", name := "clear", desc := "()V" } : Jvm.MethodName)) ∈ lw_tbl := List.mem_append_right _ (List.mem_of_getElem? (i := 1378) (by rfl))
set_option maxRecDepth 100000 in
theorem kx_1379 : (Jvm.Cond.constantLong "CoinJudge$Curve" (107 : Nat) (48 : Int64)) ∈ lw_tbl := List.mem_append_right _ (List.mem_of_getElem? (i := 1379) (by rfl))
set_option maxRecDepth 100000 in
theorem kx_1380 : (Jvm.Cond.methodLink "CoinJudge$Curve" (109 : Nat) ({ cls := "CoinJudge$Curve", name := "writeDerNumber", desc := "(ILCoinJudge$Buffer;)V" } : Jvm.MethodName)) ∈ lw_tbl := List.mem_append_right _ (List.mem_of_getElem? (i := 1380) (by rfl))
set_option maxRecDepth 100000 in
theorem kx_1382 : (Jvm.Cond.instanceMethod ({ cls := "CoinJudge$Curve", name := "writeDerNumber", desc := "(ILCoinJudge$Buffer;)V" } : Jvm.MethodName)) ∈ lw_tbl := List.mem_append_right _ (List.mem_of_getElem? (i := 1382) (by rfl))
set_option maxRecDepth 100000 in
theorem kx_1383 : (Jvm.Cond.code ({ cls := "CoinJudge$Curve", name := "writeDerNumber", desc := "(ILCoinJudge$Buffer;)V" } : Jvm.MethodName) prog_5_method_12_code (5 : Nat) (Option.none : Option Jvm.ClassFile.FieldType)) ∈ lw_tbl := List.mem_append_right _ (List.mem_of_getElem? (i := 1383) (by rfl))
set_option maxRecDepth 100000 in
theorem kx_1384 : (Jvm.Cond.constantLong "CoinJudge$Curve" (170 : Nat) (2 : Int64)) ∈ lw_tbl := List.mem_append_right _ (List.mem_of_getElem? (i := 1384) (by rfl))
set_option maxRecDepth 100000 in
theorem kx_1610 : (Jvm.Cond.methodLink "CoinJudge$Curve" (120 : Nat) ({ cls := "CoinJudge$Curve", name := "isDerNumber", desc := "([BII)Z" } : Jvm.MethodName)) ∈ lw_tbl := List.mem_append_right _ (List.mem_of_getElem? (i := 1610) (by rfl))
set_option maxRecDepth 100000 in
theorem kx_1611 : (Jvm.Cond.static ({ cls := "CoinJudge$Curve", name := "isDerNumber", desc := "([BII)Z" } : Jvm.MethodName)) ∈ lw_tbl := List.mem_append_right _ (List.mem_of_getElem? (i := 1611) (by rfl))
set_option maxRecDepth 100000 in
theorem kx_1612 : (Jvm.Cond.code ({ cls := "CoinJudge$Curve", name := "isDerNumber", desc := "([BII)Z" } : Jvm.MethodName) prog_5_method_10_code (3 : Nat) (Option.some Jvm.ClassFile.FieldType.boolean)) ∈ lw_tbl := List.mem_append_right _ (List.mem_of_getElem? (i := 1612) (by rfl))
set_option maxRecDepth 100000 in
theorem kx_1613 : (Jvm.Cond.methodLink "CoinJudge$Curve" (124 : Nat) ({ cls := "CoinJudge$Curve", name := "takeNumber", desc := "(I[BII)Z" } : Jvm.MethodName)) ∈ lw_tbl := List.mem_append_right _ (List.mem_of_getElem? (i := 1613) (by rfl))
set_option maxRecDepth 100000 in
theorem kx_1615 : (Jvm.Cond.instanceMethod ({ cls := "CoinJudge$Curve", name := "takeNumber", desc := "(I[BII)Z" } : Jvm.MethodName)) ∈ lw_tbl := List.mem_append_right _ (List.mem_of_getElem? (i := 1615) (by rfl))
set_option maxRecDepth 100000 in
theorem kx_1616 : (Jvm.Cond.code ({ cls := "CoinJudge$Curve", name := "takeNumber", desc := "(I[BII)Z" } : Jvm.MethodName) prog_5_method_11_code (7 : Nat) (Option.some Jvm.ClassFile.FieldType.boolean)) ∈ lw_tbl := List.mem_append_right _ (List.mem_of_getElem? (i := 1616) (by rfl))
set_option maxRecDepth 100000 in
theorem kx_1617 : (Jvm.Cond.methodLink "CoinJudge$Curve" (135 : Nat) ({ cls := "CoinJudge$Field", name := "isBelow", desc := "(II)Z" } : Jvm.MethodName)) ∈ lw_tbl := List.mem_append_right _ (List.mem_of_getElem? (i := 1617) (by rfl))
set_option maxRecDepth 100000 in
theorem kx_1622 : (Jvm.Cond.methodLink "CoinJudge$Curve" (142 : Nat) ({ cls := "CoinJudge$Curve", name := "takeRoot", desc := "(II)V" } : Jvm.MethodName)) ∈ lw_tbl := List.mem_append_right _ (List.mem_of_getElem? (i := 1622) (by rfl))
set_option maxRecDepth 100000 in
theorem kx_1624 : (Jvm.Cond.instanceMethod ({ cls := "CoinJudge$Curve", name := "takeRoot", desc := "(II)V" } : Jvm.MethodName)) ∈ lw_tbl := List.mem_append_right _ (List.mem_of_getElem? (i := 1624) (by rfl))
set_option maxRecDepth 100000 in
theorem kx_1625 : (Jvm.Cond.code ({ cls := "CoinJudge$Curve", name := "takeRoot", desc := "(II)V" } : Jvm.MethodName) prog_5_method_14_code (4 : Nat) (Option.none : Option Jvm.ClassFile.FieldType)) ∈ lw_tbl := List.mem_append_right _ (List.mem_of_getElem? (i := 1625) (by rfl))
set_option maxRecDepth 100000 in
theorem kx_1626 : (Jvm.Cond.fieldLink "CoinJudge$Curve" (172 : Nat) "CoinJudge$Curve" "ROOT_POWER" "[I") ∈ lw_tbl := List.mem_append_right _ (List.mem_of_getElem? (i := 1626) (by rfl))
set_option maxRecDepth 100000 in
theorem kx_1628 : (Jvm.Cond.methodLink "CoinJudge$Curve" (152 : Nat) ({ cls := "CoinJudge$Field", name := "isSame", desc := "(II)Z" } : Jvm.MethodName)) ∈ lw_tbl := List.mem_append_right _ (List.mem_of_getElem? (i := 1628) (by rfl))
set_option maxRecDepth 100000 in
theorem kx_1629 : (Jvm.Cond.instanceMethod ({ cls := "CoinJudge$Field", name := "isSame", desc := "(II)Z" } : Jvm.MethodName)) ∈ lw_tbl := List.mem_append_right _ (List.mem_of_getElem? (i := 1629) (by rfl))
set_option maxRecDepth 100000 in
theorem kx_1630 : (Jvm.Cond.selects "CoinJudge$Field" ({ cls := "CoinJudge$Field", name := "isSame", desc := "(II)Z" } : Jvm.MethodName) ({ cls := "CoinJudge$Field", name := "isSame", desc := "(II)Z" } : Jvm.MethodName)) ∈ lw_tbl := List.mem_append_right _ (List.mem_of_getElem? (i := 1630) (by rfl))
theorem kxp_1 : Cond.selects "CoinJudge$Curve" ({ cls := "CoinJudge$Curve", name := "doublePoint", desc := "(II)V" } : MethodName) ({ cls := "CoinJudge$Curve", name := "doublePoint", desc := "(II)V" } : MethodName) ∈ lw_tbl := List.mem_append_left _ (List.mem_of_getElem? (i := 1) (by decide +kernel))
theorem kxp_2 : Cond.selects "CoinJudge$Curve" ({ cls := "CoinJudge$Curve", name := "multiply", desc := "(III)V" } : MethodName) ({ cls := "CoinJudge$Curve", name := "multiply", desc := "(III)V" } : MethodName) ∈ lw_tbl := List.mem_append_left _ (List.mem_of_getElem? (i := 2) (by decide +kernel))
theorem kxp_3 : Cond.selects "CoinJudge$Curve" ({ cls := "CoinJudge$Curve", name := "addPoints", desc := "(III)Z" } : MethodName) ({ cls := "CoinJudge$Curve", name := "addPoints", desc := "(III)Z" } : MethodName) ∈ lw_tbl := List.mem_append_left _ (List.mem_of_getElem? (i := 3) (by decide +kernel))
theorem kxp_23 : Cond.selects "CoinJudge$Curve" ({ cls := "CoinJudge$Curve", name := "addTimes", desc := "(III)V" } : MethodName) ({ cls := "CoinJudge$Curve", name := "addTimes", desc := "(III)V" } : MethodName) ∈ lw_tbl := List.mem_append_left _ (List.mem_of_getElem? (i := 23) (by decide +kernel))
theorem kxp_24 : Cond.selects "CoinJudge$Curve" ({ cls := "CoinJudge$Curve", name := "writeDerNumber", desc := "(ILCoinJudge$Buffer;)V" } : MethodName) ({ cls := "CoinJudge$Curve", name := "writeDerNumber", desc := "(ILCoinJudge$Buffer;)V" } : MethodName) ∈ lw_tbl := List.mem_append_left _ (List.mem_of_getElem? (i := 24) (by decide +kernel))
theorem kxp_40 : Cond.selects "CoinJudge$Curve" ({ cls := "CoinJudge$Curve", name := "takeNumber", desc := "(I[BII)Z" } : MethodName) ({ cls := "CoinJudge$Curve", name := "takeNumber", desc := "(I[BII)Z" } : MethodName) ∈ lw_tbl := List.mem_append_left _ (List.mem_of_getElem? (i := 40) (by decide +kernel))
theorem kxp_41 : Cond.selects "CoinJudge$Curve" ({ cls := "CoinJudge$Curve", name := "takeRoot", desc := "(II)V" } : MethodName) ({ cls := "CoinJudge$Curve", name := "takeRoot", desc := "(II)V" } : MethodName) ∈ lw_tbl := List.mem_append_left _ (List.mem_of_getElem? (i := 41) (by decide +kernel))

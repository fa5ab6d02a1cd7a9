theorem cl_X12 : vwCl[15]? = some (RX12, TX12, 9) := rfl
set_option maxRecDepth 100000 in
theorem in_X12 : ∀ w ∈ u_ws RX12 TX12 9, w ∈ lw_tbl ∧ goodWord w = true := by decide +kernel
theorem cl_X13 : vwCl[16]? = some (RX13, TX13, 9) := rfl
set_option maxRecDepth 100000 in
theorem in_X13 : ∀ w ∈ u_ws RX13 TX13 9, w ∈ lw_tbl ∧ goodWord w = true := by decide +kernel
abbrev mX12_init : ks_M := (RX12, cX12_init, 1, none, "<init>")
def drX12_init : List (Nat × Instr × Nat) := [(0, .aload_n 0, 1), (1, .invokespecial 3, 3), (4, .aload_n 0, 1), (5, .sipush 1600, 3), (8, .newarray .byte, 2), (10, .putfield 9, 3), (13, .aload_n 0, 1), (14, .bipush 32, 2), (16, .newarray .byte, 2), (18, .putfield 15, 3), (21, .aload_n 0, 1), (22, .new 18, 3), (25, .dup, 1), (26, .invokespecial 20, 3), (29, .putfield 21, 3), (32, .aload_n 0, 1), (33, .bipush 8, 2), (35, .newarray .int, 2), (37, .putfield 25, 3), (40, .return_, 1)]
set_option maxRecDepth 100000 in
theorem daX12_init : dk_all cX12_init drX12_init = true := by decide +kernel
theorem dX12_init_0 : decode cX12_init 0 = .ok (.aload_n 0, 1) := dk_get daX12_init 0 (r := (0, .aload_n 0, 1)) rfl
theorem dX12_init_1 : decode cX12_init 1 = .ok (.invokespecial 3, 3) := dk_get daX12_init 1 (r := (1, .invokespecial 3, 3)) rfl
theorem dX12_init_4 : decode cX12_init 4 = .ok (.aload_n 0, 1) := dk_get daX12_init 2 (r := (4, .aload_n 0, 1)) rfl
theorem dX12_init_5 : decode cX12_init 5 = .ok (.sipush 1600, 3) := dk_get daX12_init 3 (r := (5, .sipush 1600, 3)) rfl
theorem dX12_init_8 : decode cX12_init 8 = .ok (.newarray .byte, 2) := dk_get daX12_init 4 (r := (8, .newarray .byte, 2)) rfl
theorem dX12_init_10 : decode cX12_init 10 = .ok (.putfield 9, 3) := dk_get daX12_init 5 (r := (10, .putfield 9, 3)) rfl
theorem dX12_init_13 : decode cX12_init 13 = .ok (.aload_n 0, 1) := dk_get daX12_init 6 (r := (13, .aload_n 0, 1)) rfl
theorem dX12_init_14 : decode cX12_init 14 = .ok (.bipush 32, 2) := dk_get daX12_init 7 (r := (14, .bipush 32, 2)) rfl
theorem dX12_init_16 : decode cX12_init 16 = .ok (.newarray .byte, 2) := dk_get daX12_init 8 (r := (16, .newarray .byte, 2)) rfl
theorem dX12_init_18 : decode cX12_init 18 = .ok (.putfield 15, 3) := dk_get daX12_init 9 (r := (18, .putfield 15, 3)) rfl
theorem dX12_init_21 : decode cX12_init 21 = .ok (.aload_n 0, 1) := dk_get daX12_init 10 (r := (21, .aload_n 0, 1)) rfl
theorem dX12_init_22 : decode cX12_init 22 = .ok (.new 18, 3) := dk_get daX12_init 11 (r := (22, .new 18, 3)) rfl
theorem dX12_init_25 : decode cX12_init 25 = .ok (.dup, 1) := dk_get daX12_init 12 (r := (25, .dup, 1)) rfl
theorem dX12_init_26 : decode cX12_init 26 = .ok (.invokespecial 20, 3) := dk_get daX12_init 13 (r := (26, .invokespecial 20, 3)) rfl
theorem dX12_init_29 : decode cX12_init 29 = .ok (.putfield 21, 3) := dk_get daX12_init 14 (r := (29, .putfield 21, 3)) rfl
theorem dX12_init_32 : decode cX12_init 32 = .ok (.aload_n 0, 1) := dk_get daX12_init 15 (r := (32, .aload_n 0, 1)) rfl
theorem dX12_init_33 : decode cX12_init 33 = .ok (.bipush 8, 2) := dk_get daX12_init 16 (r := (33, .bipush 8, 2)) rfl
theorem dX12_init_35 : decode cX12_init 35 = .ok (.newarray .int, 2) := dk_get daX12_init 17 (r := (35, .newarray .int, 2)) rfl
theorem dX12_init_37 : decode cX12_init 37 = .ok (.putfield 25, 3) := dk_get daX12_init 18 (r := (37, .putfield 25, 3)) rfl
theorem dX12_init_40 : decode cX12_init 40 = .ok (.return_, 1) := dk_get daX12_init 19 (r := (40, .return_, 1)) rfl
abbrev mX13_init : ks_M := (RX13, cX13_init, 1, none, "<init>")
def drX13_init : List (Nat × Instr × Nat) := [(0, .aload_n 0, 1), (1, .invokespecial 1, 3), (4, .aload_n 0, 1), (5, .bipush 12, 2), (7, .newarray .int, 2), (9, .putfield 7, 3), (12, .aload_n 0, 1), (13, .bipush 12, 2), (15, .newarray .int, 2), (17, .putfield 13, 3), (20, .aload_n 0, 1), (21, .bipush 12, 2), (23, .newarray .int, 2), (25, .putfield 16, 3), (28, .aload_n 0, 1), (29, .bipush 12, 2), (31, .newarray .int, 2), (33, .putfield 19, 3), (36, .aload_n 0, 1), (37, .bipush 12, 2), (39, .newarray .int, 2), (41, .putfield 22, 3), (44, .aload_n 0, 1), (45, .bipush 12, 2), (47, .newarray .int, 2), (49, .putfield 25, 3), (52, .aload_n 0, 1), (53, .sipush 384, 3), (56, .newarray .byte, 2), (58, .putfield 28, 3), (61, .return_, 1)]
set_option maxRecDepth 100000 in
theorem daX13_init : dk_all cX13_init drX13_init = true := by decide +kernel
theorem dX13_init_0 : decode cX13_init 0 = .ok (.aload_n 0, 1) := dk_get daX13_init 0 (r := (0, .aload_n 0, 1)) rfl
theorem dX13_init_1 : decode cX13_init 1 = .ok (.invokespecial 1, 3) := dk_get daX13_init 1 (r := (1, .invokespecial 1, 3)) rfl
theorem dX13_init_4 : decode cX13_init 4 = .ok (.aload_n 0, 1) := dk_get daX13_init 2 (r := (4, .aload_n 0, 1)) rfl
theorem dX13_init_5 : decode cX13_init 5 = .ok (.bipush 12, 2) := dk_get daX13_init 3 (r := (5, .bipush 12, 2)) rfl
theorem dX13_init_7 : decode cX13_init 7 = .ok (.newarray .int, 2) := dk_get daX13_init 4 (r := (7, .newarray .int, 2)) rfl
theorem dX13_init_9 : decode cX13_init 9 = .ok (.putfield 7, 3) := dk_get daX13_init 5 (r := (9, .putfield 7, 3)) rfl
theorem dX13_init_12 : decode cX13_init 12 = .ok (.aload_n 0, 1) := dk_get daX13_init 6 (r := (12, .aload_n 0, 1)) rfl
theorem dX13_init_13 : decode cX13_init 13 = .ok (.bipush 12, 2) := dk_get daX13_init 7 (r := (13, .bipush 12, 2)) rfl
theorem dX13_init_15 : decode cX13_init 15 = .ok (.newarray .int, 2) := dk_get daX13_init 8 (r := (15, .newarray .int, 2)) rfl
theorem dX13_init_17 : decode cX13_init 17 = .ok (.putfield 13, 3) := dk_get daX13_init 9 (r := (17, .putfield 13, 3)) rfl
theorem dX13_init_20 : decode cX13_init 20 = .ok (.aload_n 0, 1) := dk_get daX13_init 10 (r := (20, .aload_n 0, 1)) rfl
theorem dX13_init_21 : decode cX13_init 21 = .ok (.bipush 12, 2) := dk_get daX13_init 11 (r := (21, .bipush 12, 2)) rfl
theorem dX13_init_23 : decode cX13_init 23 = .ok (.newarray .int, 2) := dk_get daX13_init 12 (r := (23, .newarray .int, 2)) rfl
theorem dX13_init_25 : decode cX13_init 25 = .ok (.putfield 16, 3) := dk_get daX13_init 13 (r := (25, .putfield 16, 3)) rfl
theorem dX13_init_28 : decode cX13_init 28 = .ok (.aload_n 0, 1) := dk_get daX13_init 14 (r := (28, .aload_n 0, 1)) rfl
theorem dX13_init_29 : decode cX13_init 29 = .ok (.bipush 12, 2) := dk_get daX13_init 15 (r := (29, .bipush 12, 2)) rfl
theorem dX13_init_31 : decode cX13_init 31 = .ok (.newarray .int, 2) := dk_get daX13_init 16 (r := (31, .newarray .int, 2)) rfl
theorem dX13_init_33 : decode cX13_init 33 = .ok (.putfield 19, 3) := dk_get daX13_init 17 (r := (33, .putfield 19, 3)) rfl
theorem dX13_init_36 : decode cX13_init 36 = .ok (.aload_n 0, 1) := dk_get daX13_init 18 (r := (36, .aload_n 0, 1)) rfl
theorem dX13_init_37 : decode cX13_init 37 = .ok (.bipush 12, 2) := dk_get daX13_init 19 (r := (37, .bipush 12, 2)) rfl
theorem dX13_init_39 : decode cX13_init 39 = .ok (.newarray .int, 2) := dk_get daX13_init 20 (r := (39, .newarray .int, 2)) rfl
theorem dX13_init_41 : decode cX13_init 41 = .ok (.putfield 22, 3) := dk_get daX13_init 21 (r := (41, .putfield 22, 3)) rfl
theorem dX13_init_44 : decode cX13_init 44 = .ok (.aload_n 0, 1) := dk_get daX13_init 22 (r := (44, .aload_n 0, 1)) rfl
theorem dX13_init_45 : decode cX13_init 45 = .ok (.bipush 12, 2) := dk_get daX13_init 23 (r := (45, .bipush 12, 2)) rfl
theorem dX13_init_47 : decode cX13_init 47 = .ok (.newarray .int, 2) := dk_get daX13_init 24 (r := (47, .newarray .int, 2)) rfl
theorem dX13_init_49 : decode cX13_init 49 = .ok (.putfield 25, 3) := dk_get daX13_init 25 (r := (49, .putfield 25, 3)) rfl
theorem dX13_init_52 : decode cX13_init 52 = .ok (.aload_n 0, 1) := dk_get daX13_init 26 (r := (52, .aload_n 0, 1)) rfl
theorem dX13_init_53 : decode cX13_init 53 = .ok (.sipush 384, 3) := dk_get daX13_init 27 (r := (53, .sipush 384, 3)) rfl
theorem dX13_init_56 : decode cX13_init 56 = .ok (.newarray .byte, 2) := dk_get daX13_init 28 (r := (56, .newarray .byte, 2)) rfl
theorem dX13_init_58 : decode cX13_init 58 = .ok (.putfield 28, 3) := dk_get daX13_init 29 (r := (58, .putfield 28, 3)) rfl
theorem dX13_init_61 : decode cX13_init 61 = .ok (.return_, 1) := dk_get daX13_init 30 (r := (61, .return_, 1)) rfl
abbrev mX16_byteAt : ks_M := (RX16, cX16_byteAt, 2, (some .int), "byteAt")
def drX16_byteAt : List (Nat × Instr × Nat) := [(0, .aload_n 0, 1), (1, .getfield 245, 3), (4, .iload_n 1, 1), (5, .baload, 1), (6, .sipush 255, 3), (9, .iand, 1), (10, .ireturn, 1)]
set_option maxRecDepth 100000 in
theorem daX16_byteAt : dk_all cX16_byteAt drX16_byteAt = true := by decide +kernel
theorem dX16_byteAt_0 : decode cX16_byteAt 0 = .ok (.aload_n 0, 1) := dk_get daX16_byteAt 0 (r := (0, .aload_n 0, 1)) rfl
theorem dX16_byteAt_1 : decode cX16_byteAt 1 = .ok (.getfield 245, 3) := dk_get daX16_byteAt 1 (r := (1, .getfield 245, 3)) rfl
theorem dX16_byteAt_4 : decode cX16_byteAt 4 = .ok (.iload_n 1, 1) := dk_get daX16_byteAt 2 (r := (4, .iload_n 1, 1)) rfl
theorem dX16_byteAt_5 : decode cX16_byteAt 5 = .ok (.baload, 1) := dk_get daX16_byteAt 3 (r := (5, .baload, 1)) rfl
theorem dX16_byteAt_6 : decode cX16_byteAt 6 = .ok (.sipush 255, 3) := dk_get daX16_byteAt 4 (r := (6, .sipush 255, 3)) rfl
theorem dX16_byteAt_9 : decode cX16_byteAt 9 = .ok (.iand, 1) := dk_get daX16_byteAt 5 (r := (9, .iand, 1)) rfl
theorem dX16_byteAt_10 : decode cX16_byteAt 10 = .ok (.ireturn, 1) := dk_get daX16_byteAt 6 (r := (10, .ireturn, 1)) rfl
abbrev mX16_number : ks_M := (RX16, cX16_number, 7, (some .long), "number")
def drX16_number : List (Nat × Instr × Nat) := [(0, .lconst 0, 1), (1, .lstore 4, 2), (3, .iload_n 3, 1), (4, .iconst 1, 1), (5, .isub, 1), (6, .istore 6, 2), (8, .iload 6, 2), (10, .ifCond .lt 28, 3), (13, .lload 4, 2), (15, .bipush 8, 2), (17, .lshl, 1), (18, .aload_n 1, 1), (19, .iload_n 2, 1), (20, .iload 6, 2), (22, .iadd, 1), (23, .baload, 1), (24, .sipush 255, 3), (27, .iand, 1), (28, .i2l, 1), (29, .lor, 1), (30, .lstore 4, 2), (32, .iinc 6 (-1), 3), (35, .goto (-27), 3), (38, .lload 4, 2), (40, .lreturn, 1)]
set_option maxRecDepth 100000 in
theorem daX16_number : dk_all cX16_number drX16_number = true := by decide +kernel
theorem dX16_number_0 : decode cX16_number 0 = .ok (.lconst 0, 1) := dk_get daX16_number 0 (r := (0, .lconst 0, 1)) rfl
theorem dX16_number_1 : decode cX16_number 1 = .ok (.lstore 4, 2) := dk_get daX16_number 1 (r := (1, .lstore 4, 2)) rfl
theorem dX16_number_3 : decode cX16_number 3 = .ok (.iload_n 3, 1) := dk_get daX16_number 2 (r := (3, .iload_n 3, 1)) rfl
theorem dX16_number_4 : decode cX16_number 4 = .ok (.iconst 1, 1) := dk_get daX16_number 3 (r := (4, .iconst 1, 1)) rfl
theorem dX16_number_5 : decode cX16_number 5 = .ok (.isub, 1) := dk_get daX16_number 4 (r := (5, .isub, 1)) rfl
theorem dX16_number_6 : decode cX16_number 6 = .ok (.istore 6, 2) := dk_get daX16_number 5 (r := (6, .istore 6, 2)) rfl
theorem dX16_number_8 : decode cX16_number 8 = .ok (.iload 6, 2) := dk_get daX16_number 6 (r := (8, .iload 6, 2)) rfl
theorem dX16_number_10 : decode cX16_number 10 = .ok (.ifCond .lt 28, 3) := dk_get daX16_number 7 (r := (10, .ifCond .lt 28, 3)) rfl
theorem dX16_number_13 : decode cX16_number 13 = .ok (.lload 4, 2) := dk_get daX16_number 8 (r := (13, .lload 4, 2)) rfl
theorem dX16_number_15 : decode cX16_number 15 = .ok (.bipush 8, 2) := dk_get daX16_number 9 (r := (15, .bipush 8, 2)) rfl
theorem dX16_number_17 : decode cX16_number 17 = .ok (.lshl, 1) := dk_get daX16_number 10 (r := (17, .lshl, 1)) rfl
theorem dX16_number_18 : decode cX16_number 18 = .ok (.aload_n 1, 1) := dk_get daX16_number 11 (r := (18, .aload_n 1, 1)) rfl
theorem dX16_number_19 : decode cX16_number 19 = .ok (.iload_n 2, 1) := dk_get daX16_number 12 (r := (19, .iload_n 2, 1)) rfl
theorem dX16_number_20 : decode cX16_number 20 = .ok (.iload 6, 2) := dk_get daX16_number 13 (r := (20, .iload 6, 2)) rfl
theorem dX16_number_22 : decode cX16_number 22 = .ok (.iadd, 1) := dk_get daX16_number 14 (r := (22, .iadd, 1)) rfl
theorem dX16_number_23 : decode cX16_number 23 = .ok (.baload, 1) := dk_get daX16_number 15 (r := (23, .baload, 1)) rfl
theorem dX16_number_24 : decode cX16_number 24 = .ok (.sipush 255, 3) := dk_get daX16_number 16 (r := (24, .sipush 255, 3)) rfl
theorem dX16_number_27 : decode cX16_number 27 = .ok (.iand, 1) := dk_get daX16_number 17 (r := (27, .iand, 1)) rfl
theorem dX16_number_28 : decode cX16_number 28 = .ok (.i2l, 1) := dk_get daX16_number 18 (r := (28, .i2l, 1)) rfl
theorem dX16_number_29 : decode cX16_number 29 = .ok (.lor, 1) := dk_get daX16_number 19 (r := (29, .lor, 1)) rfl
theorem dX16_number_30 : decode cX16_number 30 = .ok (.lstore 4, 2) := dk_get daX16_number 20 (r := (30, .lstore 4, 2)) rfl
theorem dX16_number_32 : decode cX16_number 32 = .ok (.iinc 6 (-1), 3) := dk_get daX16_number 21 (r := (32, .iinc 6 (-1), 3)) rfl
theorem dX16_number_35 : decode cX16_number 35 = .ok (.goto (-27), 3) := dk_get daX16_number 22 (r := (35, .goto (-27), 3)) rfl
theorem dX16_number_38 : decode cX16_number 38 = .ok (.lload 4, 2) := dk_get daX16_number 23 (r := (38, .lload 4, 2)) rfl
theorem dX16_number_40 : decode cX16_number 40 = .ok (.lreturn, 1) := dk_get daX16_number 24 (r := (40, .lreturn, 1)) rfl
abbrev mX16_skip : ks_M := (RX16, cX16_skip, 3, none, "skip")
def drX16_skip : List (Nat × Instr × Nat) := [(0, .lload_n 1, 1), (1, .lconst 0, 1), (2, .lcmp, 1), (3, .ifCond .lt 18, 3), (6, .lload_n 1, 1), (7, .aload_n 0, 1), (8, .getfield 248, 3), (11, .aload_n 0, 1), (12, .getfield 252, 3), (15, .isub, 1), (16, .i2l, 1), (17, .lcmp, 1), (18, .ifCond .le 11, 3), (21, .aload_n 0, 1), (22, .iconst 1, 1), (23, .putfield 255, 3), (26, .goto 14, 3), (29, .aload_n 0, 1), (30, .dup, 1), (31, .getfield 252, 3), (34, .lload_n 1, 1), (35, .l2i, 1), (36, .iadd, 1), (37, .putfield 252, 3), (40, .return_, 1)]
set_option maxRecDepth 100000 in
theorem daX16_skip : dk_all cX16_skip drX16_skip = true := by decide +kernel
theorem dX16_skip_0 : decode cX16_skip 0 = .ok (.lload_n 1, 1) := dk_get daX16_skip 0 (r := (0, .lload_n 1, 1)) rfl
theorem dX16_skip_1 : decode cX16_skip 1 = .ok (.lconst 0, 1) := dk_get daX16_skip 1 (r := (1, .lconst 0, 1)) rfl
theorem dX16_skip_2 : decode cX16_skip 2 = .ok (.lcmp, 1) := dk_get daX16_skip 2 (r := (2, .lcmp, 1)) rfl
theorem dX16_skip_3 : decode cX16_skip 3 = .ok (.ifCond .lt 18, 3) := dk_get daX16_skip 3 (r := (3, .ifCond .lt 18, 3)) rfl
theorem dX16_skip_6 : decode cX16_skip 6 = .ok (.lload_n 1, 1) := dk_get daX16_skip 4 (r := (6, .lload_n 1, 1)) rfl
theorem dX16_skip_7 : decode cX16_skip 7 = .ok (.aload_n 0, 1) := dk_get daX16_skip 5 (r := (7, .aload_n 0, 1)) rfl
theorem dX16_skip_8 : decode cX16_skip 8 = .ok (.getfield 248, 3) := dk_get daX16_skip 6 (r := (8, .getfield 248, 3)) rfl
theorem dX16_skip_11 : decode cX16_skip 11 = .ok (.aload_n 0, 1) := dk_get daX16_skip 7 (r := (11, .aload_n 0, 1)) rfl
theorem dX16_skip_12 : decode cX16_skip 12 = .ok (.getfield 252, 3) := dk_get daX16_skip 8 (r := (12, .getfield 252, 3)) rfl
theorem dX16_skip_15 : decode cX16_skip 15 = .ok (.isub, 1) := dk_get daX16_skip 9 (r := (15, .isub, 1)) rfl
theorem dX16_skip_16 : decode cX16_skip 16 = .ok (.i2l, 1) := dk_get daX16_skip 10 (r := (16, .i2l, 1)) rfl
theorem dX16_skip_17 : decode cX16_skip 17 = .ok (.lcmp, 1) := dk_get daX16_skip 11 (r := (17, .lcmp, 1)) rfl
theorem dX16_skip_18 : decode cX16_skip 18 = .ok (.ifCond .le 11, 3) := dk_get daX16_skip 12 (r := (18, .ifCond .le 11, 3)) rfl
theorem dX16_skip_21 : decode cX16_skip 21 = .ok (.aload_n 0, 1) := dk_get daX16_skip 13 (r := (21, .aload_n 0, 1)) rfl
theorem dX16_skip_22 : decode cX16_skip 22 = .ok (.iconst 1, 1) := dk_get daX16_skip 14 (r := (22, .iconst 1, 1)) rfl
theorem dX16_skip_23 : decode cX16_skip 23 = .ok (.putfield 255, 3) := dk_get daX16_skip 15 (r := (23, .putfield 255, 3)) rfl
theorem dX16_skip_26 : decode cX16_skip 26 = .ok (.goto 14, 3) := dk_get daX16_skip 16 (r := (26, .goto 14, 3)) rfl
theorem dX16_skip_29 : decode cX16_skip 29 = .ok (.aload_n 0, 1) := dk_get daX16_skip 17 (r := (29, .aload_n 0, 1)) rfl
theorem dX16_skip_30 : decode cX16_skip 30 = .ok (.dup, 1) := dk_get daX16_skip 18 (r := (30, .dup, 1)) rfl
theorem dX16_skip_31 : decode cX16_skip 31 = .ok (.getfield 252, 3) := dk_get daX16_skip 19 (r := (31, .getfield 252, 3)) rfl
theorem dX16_skip_34 : decode cX16_skip 34 = .ok (.lload_n 1, 1) := dk_get daX16_skip 20 (r := (34, .lload_n 1, 1)) rfl
theorem dX16_skip_35 : decode cX16_skip 35 = .ok (.l2i, 1) := dk_get daX16_skip 21 (r := (35, .l2i, 1)) rfl
theorem dX16_skip_36 : decode cX16_skip 36 = .ok (.iadd, 1) := dk_get daX16_skip 22 (r := (36, .iadd, 1)) rfl
theorem dX16_skip_37 : decode cX16_skip 37 = .ok (.putfield 252, 3) := dk_get daX16_skip 23 (r := (37, .putfield 252, 3)) rfl
theorem dX16_skip_40 : decode cX16_skip 40 = .ok (.return_, 1) := dk_get daX16_skip 24 (r := (40, .return_, 1)) rfl
abbrev mX16_count : ks_M := (RX16, cX16_count, 6, (some .long), "count")
def drX16_count : List (Nat × Instr × Nat) := [(0, .aload_n 0, 1), (1, .getfield 252, 3), (4, .aload_n 0, 1), (5, .getfield 248, 3), (8, .if_icmp .lt 10, 3), (11, .aload_n 0, 1), (12, .iconst 1, 1), (13, .putfield 255, 3), (16, .lconst 0, 1), (17, .lreturn, 1), (18, .aload_n 0, 1), (19, .aload_n 0, 1), (20, .getfield 252, 3), (23, .invokevirtual 259, 3), (26, .istore_n 1, 1), (27, .iload_n 1, 1), (28, .sipush 253, 3), (31, .if_icmp .ge 7, 3), (34, .iconst 0, 1), (35, .goto 27, 3), (38, .iload_n 1, 1), (39, .sipush 253, 3), (42, .if_icmp .ne 7, 3), (45, .iconst 2, 1), (46, .goto 16, 3), (49, .iload_n 1, 1), (50, .sipush 254, 3), (53, .if_icmp .ne 7, 3), (56, .iconst 4, 1), (57, .goto 5, 3), (60, .bipush 8, 2), (62, .istore_n 2, 1), (63, .aload_n 0, 1), (64, .getfield 252, 3), (67, .iconst 1, 1), (68, .iadd, 1), (69, .istore_n 3, 1), (70, .aload_n 0, 1), (71, .iconst 1, 1), (72, .iload_n 2, 1), (73, .iadd, 1), (74, .i2l, 1), (75, .invokevirtual 263, 3), (78, .aload_n 0, 1), (79, .getfield 255, 3), (82, .ifCond .eq 5, 3), (85, .lconst 0, 1), (86, .lreturn, 1), (87, .iload_n 2, 1), (88, .ifCond .ne 6, 3), (91, .iload_n 1, 1), (92, .i2l, 1), (93, .lreturn, 1), (94, .aload_n 0, 1), (95, .aload_n 0, 1), (96, .getfield 245, 3), (99, .iload_n 3, 1), (100, .iload_n 2, 1), (101, .invokevirtual 267, 3), (104, .lstore 4, 2), (106, .iload_n 2, 1), (107, .iconst 2, 1), (108, .if_icmp .ne 15, 3), (111, .lload 4, 2), (113, .ldc2_w 271, 3), (116, .lcmp, 1), (117, .ifCond .ge 38, 3), (120, .goto 30, 3), (123, .iload_n 2, 1), (124, .iconst 4, 1), (125, .if_icmp .ne 15, 3), (128, .lload 4, 2), (130, .ldc2_w 273, 3), (133, .lcmp, 1), (134, .ifCond .ge 21, 3), (137, .goto 13, 3), (140, .lload 4, 2), (142, .bipush 32, 2), (144, .lushr, 1), (145, .lconst 0, 1), (146, .lcmp, 1), (147, .ifCond .ne 8, 3), (150, .aload_n 0, 1), (151, .iconst 1, 1), (152, .putfield 255, 3), (155, .lload 4, 2), (157, .lreturn, 1)]
set_option maxRecDepth 100000 in
theorem daX16_count : dk_all cX16_count drX16_count = true := by decide +kernel
theorem dX16_count_0 : decode cX16_count 0 = .ok (.aload_n 0, 1) := dk_get daX16_count 0 (r := (0, .aload_n 0, 1)) rfl
theorem dX16_count_1 : decode cX16_count 1 = .ok (.getfield 252, 3) := dk_get daX16_count 1 (r := (1, .getfield 252, 3)) rfl
theorem dX16_count_4 : decode cX16_count 4 = .ok (.aload_n 0, 1) := dk_get daX16_count 2 (r := (4, .aload_n 0, 1)) rfl
theorem dX16_count_5 : decode cX16_count 5 = .ok (.getfield 248, 3) := dk_get daX16_count 3 (r := (5, .getfield 248, 3)) rfl
theorem dX16_count_8 : decode cX16_count 8 = .ok (.if_icmp .lt 10, 3) := dk_get daX16_count 4 (r := (8, .if_icmp .lt 10, 3)) rfl
theorem dX16_count_11 : decode cX16_count 11 = .ok (.aload_n 0, 1) := dk_get daX16_count 5 (r := (11, .aload_n 0, 1)) rfl
theorem dX16_count_12 : decode cX16_count 12 = .ok (.iconst 1, 1) := dk_get daX16_count 6 (r := (12, .iconst 1, 1)) rfl
theorem dX16_count_13 : decode cX16_count 13 = .ok (.putfield 255, 3) := dk_get daX16_count 7 (r := (13, .putfield 255, 3)) rfl
theorem dX16_count_16 : decode cX16_count 16 = .ok (.lconst 0, 1) := dk_get daX16_count 8 (r := (16, .lconst 0, 1)) rfl
theorem dX16_count_17 : decode cX16_count 17 = .ok (.lreturn, 1) := dk_get daX16_count 9 (r := (17, .lreturn, 1)) rfl
theorem dX16_count_18 : decode cX16_count 18 = .ok (.aload_n 0, 1) := dk_get daX16_count 10 (r := (18, .aload_n 0, 1)) rfl
theorem dX16_count_19 : decode cX16_count 19 = .ok (.aload_n 0, 1) := dk_get daX16_count 11 (r := (19, .aload_n 0, 1)) rfl
theorem dX16_count_20 : decode cX16_count 20 = .ok (.getfield 252, 3) := dk_get daX16_count 12 (r := (20, .getfield 252, 3)) rfl
theorem dX16_count_23 : decode cX16_count 23 = .ok (.invokevirtual 259, 3) := dk_get daX16_count 13 (r := (23, .invokevirtual 259, 3)) rfl
theorem dX16_count_26 : decode cX16_count 26 = .ok (.istore_n 1, 1) := dk_get daX16_count 14 (r := (26, .istore_n 1, 1)) rfl
theorem dX16_count_27 : decode cX16_count 27 = .ok (.iload_n 1, 1) := dk_get daX16_count 15 (r := (27, .iload_n 1, 1)) rfl
theorem dX16_count_28 : decode cX16_count 28 = .ok (.sipush 253, 3) := dk_get daX16_count 16 (r := (28, .sipush 253, 3)) rfl
theorem dX16_count_31 : decode cX16_count 31 = .ok (.if_icmp .ge 7, 3) := dk_get daX16_count 17 (r := (31, .if_icmp .ge 7, 3)) rfl
theorem dX16_count_34 : decode cX16_count 34 = .ok (.iconst 0, 1) := dk_get daX16_count 18 (r := (34, .iconst 0, 1)) rfl
theorem dX16_count_35 : decode cX16_count 35 = .ok (.goto 27, 3) := dk_get daX16_count 19 (r := (35, .goto 27, 3)) rfl
theorem dX16_count_38 : decode cX16_count 38 = .ok (.iload_n 1, 1) := dk_get daX16_count 20 (r := (38, .iload_n 1, 1)) rfl
theorem dX16_count_39 : decode cX16_count 39 = .ok (.sipush 253, 3) := dk_get daX16_count 21 (r := (39, .sipush 253, 3)) rfl
theorem dX16_count_42 : decode cX16_count 42 = .ok (.if_icmp .ne 7, 3) := dk_get daX16_count 22 (r := (42, .if_icmp .ne 7, 3)) rfl
theorem dX16_count_45 : decode cX16_count 45 = .ok (.iconst 2, 1) := dk_get daX16_count 23 (r := (45, .iconst 2, 1)) rfl
theorem dX16_count_46 : decode cX16_count 46 = .ok (.goto 16, 3) := dk_get daX16_count 24 (r := (46, .goto 16, 3)) rfl
theorem dX16_count_49 : decode cX16_count 49 = .ok (.iload_n 1, 1) := dk_get daX16_count 25 (r := (49, .iload_n 1, 1)) rfl
theorem dX16_count_50 : decode cX16_count 50 = .ok (.sipush 254, 3) := dk_get daX16_count 26 (r := (50, .sipush 254, 3)) rfl
theorem dX16_count_53 : decode cX16_count 53 = .ok (.if_icmp .ne 7, 3) := dk_get daX16_count 27 (r := (53, .if_icmp .ne 7, 3)) rfl
theorem dX16_count_56 : decode cX16_count 56 = .ok (.iconst 4, 1) := dk_get daX16_count 28 (r := (56, .iconst 4, 1)) rfl
theorem dX16_count_57 : decode cX16_count 57 = .ok (.goto 5, 3) := dk_get daX16_count 29 (r := (57, .goto 5, 3)) rfl
theorem dX16_count_60 : decode cX16_count 60 = .ok (.bipush 8, 2) := dk_get daX16_count 30 (r := (60, .bipush 8, 2)) rfl
theorem dX16_count_62 : decode cX16_count 62 = .ok (.istore_n 2, 1) := dk_get daX16_count 31 (r := (62, .istore_n 2, 1)) rfl
theorem dX16_count_63 : decode cX16_count 63 = .ok (.aload_n 0, 1) := dk_get daX16_count 32 (r := (63, .aload_n 0, 1)) rfl
theorem dX16_count_64 : decode cX16_count 64 = .ok (.getfield 252, 3) := dk_get daX16_count 33 (r := (64, .getfield 252, 3)) rfl
theorem dX16_count_67 : decode cX16_count 67 = .ok (.iconst 1, 1) := dk_get daX16_count 34 (r := (67, .iconst 1, 1)) rfl
theorem dX16_count_68 : decode cX16_count 68 = .ok (.iadd, 1) := dk_get daX16_count 35 (r := (68, .iadd, 1)) rfl
theorem dX16_count_69 : decode cX16_count 69 = .ok (.istore_n 3, 1) := dk_get daX16_count 36 (r := (69, .istore_n 3, 1)) rfl
theorem dX16_count_70 : decode cX16_count 70 = .ok (.aload_n 0, 1) := dk_get daX16_count 37 (r := (70, .aload_n 0, 1)) rfl
theorem dX16_count_71 : decode cX16_count 71 = .ok (.iconst 1, 1) := dk_get daX16_count 38 (r := (71, .iconst 1, 1)) rfl
theorem dX16_count_72 : decode cX16_count 72 = .ok (.iload_n 2, 1) := dk_get daX16_count 39 (r := (72, .iload_n 2, 1)) rfl
theorem dX16_count_73 : decode cX16_count 73 = .ok (.iadd, 1) := dk_get daX16_count 40 (r := (73, .iadd, 1)) rfl
theorem dX16_count_74 : decode cX16_count 74 = .ok (.i2l, 1) := dk_get daX16_count 41 (r := (74, .i2l, 1)) rfl
theorem dX16_count_75 : decode cX16_count 75 = .ok (.invokevirtual 263, 3) := dk_get daX16_count 42 (r := (75, .invokevirtual 263, 3)) rfl
theorem dX16_count_78 : decode cX16_count 78 = .ok (.aload_n 0, 1) := dk_get daX16_count 43 (r := (78, .aload_n 0, 1)) rfl
theorem dX16_count_79 : decode cX16_count 79 = .ok (.getfield 255, 3) := dk_get daX16_count 44 (r := (79, .getfield 255, 3)) rfl
theorem dX16_count_82 : decode cX16_count 82 = .ok (.ifCond .eq 5, 3) := dk_get daX16_count 45 (r := (82, .ifCond .eq 5, 3)) rfl
theorem dX16_count_85 : decode cX16_count 85 = .ok (.lconst 0, 1) := dk_get daX16_count 46 (r := (85, .lconst 0, 1)) rfl
theorem dX16_count_86 : decode cX16_count 86 = .ok (.lreturn, 1) := dk_get daX16_count 47 (r := (86, .lreturn, 1)) rfl
theorem dX16_count_87 : decode cX16_count 87 = .ok (.iload_n 2, 1) := dk_get daX16_count 48 (r := (87, .iload_n 2, 1)) rfl
theorem dX16_count_88 : decode cX16_count 88 = .ok (.ifCond .ne 6, 3) := dk_get daX16_count 49 (r := (88, .ifCond .ne 6, 3)) rfl
theorem dX16_count_91 : decode cX16_count 91 = .ok (.iload_n 1, 1) := dk_get daX16_count 50 (r := (91, .iload_n 1, 1)) rfl
theorem dX16_count_92 : decode cX16_count 92 = .ok (.i2l, 1) := dk_get daX16_count 51 (r := (92, .i2l, 1)) rfl
theorem dX16_count_93 : decode cX16_count 93 = .ok (.lreturn, 1) := dk_get daX16_count 52 (r := (93, .lreturn, 1)) rfl
theorem dX16_count_94 : decode cX16_count 94 = .ok (.aload_n 0, 1) := dk_get daX16_count 53 (r := (94, .aload_n 0, 1)) rfl
theorem dX16_count_95 : decode cX16_count 95 = .ok (.aload_n 0, 1) := dk_get daX16_count 54 (r := (95, .aload_n 0, 1)) rfl
theorem dX16_count_96 : decode cX16_count 96 = .ok (.getfield 245, 3) := dk_get daX16_count 55 (r := (96, .getfield 245, 3)) rfl
theorem dX16_count_99 : decode cX16_count 99 = .ok (.iload_n 3, 1) := dk_get daX16_count 56 (r := (99, .iload_n 3, 1)) rfl
theorem dX16_count_100 : decode cX16_count 100 = .ok (.iload_n 2, 1) := dk_get daX16_count 57 (r := (100, .iload_n 2, 1)) rfl
theorem dX16_count_101 : decode cX16_count 101 = .ok (.invokevirtual 267, 3) := dk_get daX16_count 58 (r := (101, .invokevirtual 267, 3)) rfl
theorem dX16_count_104 : decode cX16_count 104 = .ok (.lstore 4, 2) := dk_get daX16_count 59 (r := (104, .lstore 4, 2)) rfl
theorem dX16_count_106 : decode cX16_count 106 = .ok (.iload_n 2, 1) := dk_get daX16_count 60 (r := (106, .iload_n 2, 1)) rfl
theorem dX16_count_107 : decode cX16_count 107 = .ok (.iconst 2, 1) := dk_get daX16_count 61 (r := (107, .iconst 2, 1)) rfl
theorem dX16_count_108 : decode cX16_count 108 = .ok (.if_icmp .ne 15, 3) := dk_get daX16_count 62 (r := (108, .if_icmp .ne 15, 3)) rfl
theorem dX16_count_111 : decode cX16_count 111 = .ok (.lload 4, 2) := dk_get daX16_count 63 (r := (111, .lload 4, 2)) rfl
theorem dX16_count_113 : decode cX16_count 113 = .ok (.ldc2_w 271, 3) := dk_get daX16_count 64 (r := (113, .ldc2_w 271, 3)) rfl
theorem dX16_count_116 : decode cX16_count 116 = .ok (.lcmp, 1) := dk_get daX16_count 65 (r := (116, .lcmp, 1)) rfl
theorem dX16_count_117 : decode cX16_count 117 = .ok (.ifCond .ge 38, 3) := dk_get daX16_count 66 (r := (117, .ifCond .ge 38, 3)) rfl
theorem dX16_count_120 : decode cX16_count 120 = .ok (.goto 30, 3) := dk_get daX16_count 67 (r := (120, .goto 30, 3)) rfl
theorem dX16_count_123 : decode cX16_count 123 = .ok (.iload_n 2, 1) := dk_get daX16_count 68 (r := (123, .iload_n 2, 1)) rfl
theorem dX16_count_124 : decode cX16_count 124 = .ok (.iconst 4, 1) := dk_get daX16_count 69 (r := (124, .iconst 4, 1)) rfl
theorem dX16_count_125 : decode cX16_count 125 = .ok (.if_icmp .ne 15, 3) := dk_get daX16_count 70 (r := (125, .if_icmp .ne 15, 3)) rfl
theorem dX16_count_128 : decode cX16_count 128 = .ok (.lload 4, 2) := dk_get daX16_count 71 (r := (128, .lload 4, 2)) rfl
theorem dX16_count_130 : decode cX16_count 130 = .ok (.ldc2_w 273, 3) := dk_get daX16_count 72 (r := (130, .ldc2_w 273, 3)) rfl
theorem dX16_count_133 : decode cX16_count 133 = .ok (.lcmp, 1) := dk_get daX16_count 73 (r := (133, .lcmp, 1)) rfl
theorem dX16_count_134 : decode cX16_count 134 = .ok (.ifCond .ge 21, 3) := dk_get daX16_count 74 (r := (134, .ifCond .ge 21, 3)) rfl
theorem dX16_count_137 : decode cX16_count 137 = .ok (.goto 13, 3) := dk_get daX16_count 75 (r := (137, .goto 13, 3)) rfl
theorem dX16_count_140 : decode cX16_count 140 = .ok (.lload 4, 2) := dk_get daX16_count 76 (r := (140, .lload 4, 2)) rfl
theorem dX16_count_142 : decode cX16_count 142 = .ok (.bipush 32, 2) := dk_get daX16_count 77 (r := (142, .bipush 32, 2)) rfl
theorem dX16_count_144 : decode cX16_count 144 = .ok (.lushr, 1) := dk_get daX16_count 78 (r := (144, .lushr, 1)) rfl
theorem dX16_count_145 : decode cX16_count 145 = .ok (.lconst 0, 1) := dk_get daX16_count 79 (r := (145, .lconst 0, 1)) rfl
theorem dX16_count_146 : decode cX16_count 146 = .ok (.lcmp, 1) := dk_get daX16_count 80 (r := (146, .lcmp, 1)) rfl
theorem dX16_count_147 : decode cX16_count 147 = .ok (.ifCond .ne 8, 3) := dk_get daX16_count 81 (r := (147, .ifCond .ne 8, 3)) rfl
theorem dX16_count_150 : decode cX16_count 150 = .ok (.aload_n 0, 1) := dk_get daX16_count 82 (r := (150, .aload_n 0, 1)) rfl
theorem dX16_count_151 : decode cX16_count 151 = .ok (.iconst 1, 1) := dk_get daX16_count 83 (r := (151, .iconst 1, 1)) rfl
theorem dX16_count_152 : decode cX16_count 152 = .ok (.putfield 255, 3) := dk_get daX16_count 84 (r := (152, .putfield 255, 3)) rfl
theorem dX16_count_155 : decode cX16_count 155 = .ok (.lload 4, 2) := dk_get daX16_count 85 (r := (155, .lload 4, 2)) rfl
theorem dX16_count_157 : decode cX16_count 157 = .ok (.lreturn, 1) := dk_get daX16_count 86 (r := (157, .lreturn, 1)) rfl
abbrev mX16_parse : ks_M := (RX16, cX16_parse, 12, (some .boolean), "parse")
def drX16_parse : List (Nat × Instr × Nat) := [(0, .aload_n 0, 1), (1, .aload_n 1, 1), (2, .putfield 245, 3), (5, .aload_n 0, 1), (6, .iload_n 2, 1), (7, .putfield 248, 3), (10, .aload_n 0, 1), (11, .iconst 0, 1), (12, .putfield 252, 3), (15, .aload_n 0, 1), (16, .iconst 0, 1), (17, .putfield 255, 3), (20, .aload_n 3, 1), (21, .aload_n 1, 1), (22, .putfield 275, 3), (25, .aload_n 0, 1), (26, .ldc2_w 280, 3), (29, .invokevirtual 263, 3), (32, .aload_n 0, 1), (33, .getfield 255, 3), (36, .ifCond .eq 7, 3), (39, .lconst 0, 1), (40, .goto 7, 3), (43, .aload_n 0, 1), (44, .invokevirtual 282, 3), (47, .lstore 4, 2), (49, .aload_n 0, 1), (50, .getfield 255, 3), (53, .ifCond .ne 19, 3), (56, .lload 4, 2), (58, .lconst 0, 1), (59, .lcmp, 1), (60, .ifCond .lt 12, 3), (63, .lload 4, 2), (65, .ldc2_w 286, 3), (68, .lcmp, 1), (69, .ifCond .le 5, 3), (72, .iconst 0, 1), (73, .ireturn, 1), (74, .aload_n 3, 1), (75, .lload 4, 2), (77, .l2i, 1), (78, .putfield 288, 3), (81, .iconst 0, 1), (82, .istore 6, 2), (84, .iload 6, 2), (86, .aload_n 3, 1), (87, .getfield 288, 3), (90, .if_icmp .ge 315, 3), (93, .aload_n 3, 1), (94, .getfield 290, 3), (97, .iload 6, 2), (99, .aload_n 0, 1), (100, .getfield 252, 3), (103, .iastore, 1), (104, .aload_n 0, 1), (105, .ldc2_w 293, 3), (108, .invokevirtual 263, 3), (111, .aload_n 0, 1), (112, .getfield 255, 3), (115, .ifCond .eq 7, 3), (118, .lconst 0, 1), (119, .goto 7, 3), (122, .aload_n 0, 1), (123, .invokevirtual 282, 3), (126, .lstore 7, 2), (128, .aload_n 0, 1), (129, .getfield 255, 3), (132, .ifCond .ne 19, 3), (135, .lload 7, 2), (137, .lconst 0, 1), (138, .lcmp, 1), (139, .ifCond .lt 12, 3), (142, .lload 7, 2), (144, .ldc2_w 295, 3), (147, .lcmp, 1), (148, .ifCond .le 5, 3), (151, .iconst 0, 1), (152, .ireturn, 1), (153, .aload_n 3, 1), (154, .getfield 297, 3), (157, .iload 6, 2), (159, .lload 7, 2), (161, .l2i, 1), (162, .iastore, 1), (163, .aload_n 3, 1), (164, .getfield 300, 3), (167, .iload 6, 2), (169, .aload_n 0, 1), (170, .getfield 252, 3), (173, .iastore, 1), (174, .iconst 0, 1), (175, .istore 9, 2), (177, .iload 9, 2), (179, .i2l, 1), (180, .lload 7, 2), (182, .lcmp, 1), (183, .ifCond .ge 51, 3), (186, .aload_n 0, 1), (187, .ldc2_w 303, 3), (190, .invokevirtual 263, 3), (193, .aload_n 0, 1), (194, .aload_n 0, 1), (195, .getfield 255, 3), (198, .ifCond .eq 7, 3), (201, .lconst 0, 1), (202, .goto 7, 3), (205, .aload_n 0, 1), (206, .invokevirtual 282, 3), (209, .invokevirtual 263, 3), (212, .aload_n 0, 1), (213, .ldc2_w 293, 3), (216, .invokevirtual 263, 3), (219, .aload_n 0, 1), (220, .getfield 255, 3), (223, .ifCond .eq 5, 3), (226, .iconst 0, 1), (227, .ireturn, 1), (228, .iinc 9 1, 3), (231, .goto (-54), 3), (234, .aload_n 0, 1), (235, .invokevirtual 282, 3), (238, .lstore 9, 2), (240, .aload_n 0, 1), (241, .getfield 255, 3), (244, .ifCond .ne 19, 3), (247, .lload 9, 2), (249, .lconst 0, 1), (250, .lcmp, 1), (251, .ifCond .lt 12, 3), (254, .lload 9, 2), (256, .ldc2_w 305, 3), (259, .lcmp, 1), (260, .ifCond .le 5, 3), (263, .iconst 0, 1), (264, .ireturn, 1), (265, .aload_n 3, 1), (266, .getfield 307, 3), (269, .iload 6, 2), (271, .lload 9, 2), (273, .l2i, 1), (274, .iastore, 1), (275, .aload_n 3, 1), (276, .getfield 310, 3), (279, .iload 6, 2), (281, .aload_n 0, 1), (282, .getfield 252, 3), (285, .iastore, 1), (286, .iconst 0, 1), (287, .istore 11, 2), (289, .iload 11, 2), (291, .i2l, 1), (292, .lload 9, 2), (294, .lcmp, 1), (295, .ifCond .ge 44, 3), (298, .aload_n 0, 1), (299, .ldc2_w 51, 3), (302, .invokevirtual 263, 3), (305, .aload_n 0, 1), (306, .aload_n 0, 1), (307, .getfield 255, 3), (310, .ifCond .eq 7, 3), (313, .lconst 0, 1), (314, .goto 7, 3), (317, .aload_n 0, 1), (318, .invokevirtual 282, 3), (321, .invokevirtual 263, 3), (324, .aload_n 0, 1), (325, .getfield 255, 3), (328, .ifCond .eq 5, 3), (331, .iconst 0, 1), (332, .ireturn, 1), (333, .iinc 11 1, 3), (336, .goto (-47), 3), (339, .aload_n 0, 1), (340, .ldc2_w 293, 3), (343, .invokevirtual 263, 3), (346, .aload_n 0, 1), (347, .getfield 255, 3), (350, .ifCond .eq 5, 3), (353, .iconst 0, 1), (354, .ireturn, 1), (355, .aload_n 3, 1), (356, .getfield 313, 3), (359, .iload 6, 2), (361, .aload_n 0, 1), (362, .getfield 252, 3), (365, .iastore, 1), (366, .aload_n 0, 1), (367, .aload_n 1, 1), (368, .aload_n 3, 1), (369, .getfield 290, 3), (372, .iload 6, 2), (374, .iaload, 1), (375, .aload_n 0, 1), (376, .getfield 252, 3), (379, .aload_n 3, 1), (380, .getfield 290, 3), (383, .iload 6, 2), (385, .iaload, 1), (386, .isub, 1), (387, .aload_n 3, 1), (388, .getfield 316, 3), (391, .bipush 32, 2), (393, .iload 6, 2), (395, .imul, 1), (396, .invokevirtual 319, 3), (399, .iinc 6 1, 3), (402, .goto (-318), 3), (405, .aload_n 0, 1), (406, .getfield 252, 3), (409, .iload_n 2, 1), (410, .if_icmp .ne 7, 3), (413, .iconst 1, 1), (414, .goto 4, 3), (417, .iconst 0, 1), (418, .ireturn, 1)]
set_option maxRecDepth 100000 in
theorem daX16_parse : dk_all cX16_parse drX16_parse = true := by decide +kernel
theorem dX16_parse_0 : decode cX16_parse 0 = .ok (.aload_n 0, 1) := dk_get daX16_parse 0 (r := (0, .aload_n 0, 1)) rfl
theorem dX16_parse_1 : decode cX16_parse 1 = .ok (.aload_n 1, 1) := dk_get daX16_parse 1 (r := (1, .aload_n 1, 1)) rfl
theorem dX16_parse_2 : decode cX16_parse 2 = .ok (.putfield 245, 3) := dk_get daX16_parse 2 (r := (2, .putfield 245, 3)) rfl
theorem dX16_parse_5 : decode cX16_parse 5 = .ok (.aload_n 0, 1) := dk_get daX16_parse 3 (r := (5, .aload_n 0, 1)) rfl
theorem dX16_parse_6 : decode cX16_parse 6 = .ok (.iload_n 2, 1) := dk_get daX16_parse 4 (r := (6, .iload_n 2, 1)) rfl
theorem dX16_parse_7 : decode cX16_parse 7 = .ok (.putfield 248, 3) := dk_get daX16_parse 5 (r := (7, .putfield 248, 3)) rfl
theorem dX16_parse_10 : decode cX16_parse 10 = .ok (.aload_n 0, 1) := dk_get daX16_parse 6 (r := (10, .aload_n 0, 1)) rfl
theorem dX16_parse_11 : decode cX16_parse 11 = .ok (.iconst 0, 1) := dk_get daX16_parse 7 (r := (11, .iconst 0, 1)) rfl
theorem dX16_parse_12 : decode cX16_parse 12 = .ok (.putfield 252, 3) := dk_get daX16_parse 8 (r := (12, .putfield 252, 3)) rfl
theorem dX16_parse_15 : decode cX16_parse 15 = .ok (.aload_n 0, 1) := dk_get daX16_parse 9 (r := (15, .aload_n 0, 1)) rfl
theorem dX16_parse_16 : decode cX16_parse 16 = .ok (.iconst 0, 1) := dk_get daX16_parse 10 (r := (16, .iconst 0, 1)) rfl
theorem dX16_parse_17 : decode cX16_parse 17 = .ok (.putfield 255, 3) := dk_get daX16_parse 11 (r := (17, .putfield 255, 3)) rfl
theorem dX16_parse_20 : decode cX16_parse 20 = .ok (.aload_n 3, 1) := dk_get daX16_parse 12 (r := (20, .aload_n 3, 1)) rfl
theorem dX16_parse_21 : decode cX16_parse 21 = .ok (.aload_n 1, 1) := dk_get daX16_parse 13 (r := (21, .aload_n 1, 1)) rfl
theorem dX16_parse_22 : decode cX16_parse 22 = .ok (.putfield 275, 3) := dk_get daX16_parse 14 (r := (22, .putfield 275, 3)) rfl
theorem dX16_parse_25 : decode cX16_parse 25 = .ok (.aload_n 0, 1) := dk_get daX16_parse 15 (r := (25, .aload_n 0, 1)) rfl
theorem dX16_parse_26 : decode cX16_parse 26 = .ok (.ldc2_w 280, 3) := dk_get daX16_parse 16 (r := (26, .ldc2_w 280, 3)) rfl
theorem dX16_parse_29 : decode cX16_parse 29 = .ok (.invokevirtual 263, 3) := dk_get daX16_parse 17 (r := (29, .invokevirtual 263, 3)) rfl
theorem dX16_parse_32 : decode cX16_parse 32 = .ok (.aload_n 0, 1) := dk_get daX16_parse 18 (r := (32, .aload_n 0, 1)) rfl
theorem dX16_parse_33 : decode cX16_parse 33 = .ok (.getfield 255, 3) := dk_get daX16_parse 19 (r := (33, .getfield 255, 3)) rfl
theorem dX16_parse_36 : decode cX16_parse 36 = .ok (.ifCond .eq 7, 3) := dk_get daX16_parse 20 (r := (36, .ifCond .eq 7, 3)) rfl
theorem dX16_parse_39 : decode cX16_parse 39 = .ok (.lconst 0, 1) := dk_get daX16_parse 21 (r := (39, .lconst 0, 1)) rfl
theorem dX16_parse_40 : decode cX16_parse 40 = .ok (.goto 7, 3) := dk_get daX16_parse 22 (r := (40, .goto 7, 3)) rfl
theorem dX16_parse_43 : decode cX16_parse 43 = .ok (.aload_n 0, 1) := dk_get daX16_parse 23 (r := (43, .aload_n 0, 1)) rfl
theorem dX16_parse_44 : decode cX16_parse 44 = .ok (.invokevirtual 282, 3) := dk_get daX16_parse 24 (r := (44, .invokevirtual 282, 3)) rfl
theorem dX16_parse_47 : decode cX16_parse 47 = .ok (.lstore 4, 2) := dk_get daX16_parse 25 (r := (47, .lstore 4, 2)) rfl
theorem dX16_parse_49 : decode cX16_parse 49 = .ok (.aload_n 0, 1) := dk_get daX16_parse 26 (r := (49, .aload_n 0, 1)) rfl
theorem dX16_parse_50 : decode cX16_parse 50 = .ok (.getfield 255, 3) := dk_get daX16_parse 27 (r := (50, .getfield 255, 3)) rfl
theorem dX16_parse_53 : decode cX16_parse 53 = .ok (.ifCond .ne 19, 3) := dk_get daX16_parse 28 (r := (53, .ifCond .ne 19, 3)) rfl
theorem dX16_parse_56 : decode cX16_parse 56 = .ok (.lload 4, 2) := dk_get daX16_parse 29 (r := (56, .lload 4, 2)) rfl
theorem dX16_parse_58 : decode cX16_parse 58 = .ok (.lconst 0, 1) := dk_get daX16_parse 30 (r := (58, .lconst 0, 1)) rfl
theorem dX16_parse_59 : decode cX16_parse 59 = .ok (.lcmp, 1) := dk_get daX16_parse 31 (r := (59, .lcmp, 1)) rfl
theorem dX16_parse_60 : decode cX16_parse 60 = .ok (.ifCond .lt 12, 3) := dk_get daX16_parse 32 (r := (60, .ifCond .lt 12, 3)) rfl
theorem dX16_parse_63 : decode cX16_parse 63 = .ok (.lload 4, 2) := dk_get daX16_parse 33 (r := (63, .lload 4, 2)) rfl
theorem dX16_parse_65 : decode cX16_parse 65 = .ok (.ldc2_w 286, 3) := dk_get daX16_parse 34 (r := (65, .ldc2_w 286, 3)) rfl
theorem dX16_parse_68 : decode cX16_parse 68 = .ok (.lcmp, 1) := dk_get daX16_parse 35 (r := (68, .lcmp, 1)) rfl
theorem dX16_parse_69 : decode cX16_parse 69 = .ok (.ifCond .le 5, 3) := dk_get daX16_parse 36 (r := (69, .ifCond .le 5, 3)) rfl
theorem dX16_parse_72 : decode cX16_parse 72 = .ok (.iconst 0, 1) := dk_get daX16_parse 37 (r := (72, .iconst 0, 1)) rfl
theorem dX16_parse_73 : decode cX16_parse 73 = .ok (.ireturn, 1) := dk_get daX16_parse 38 (r := (73, .ireturn, 1)) rfl
theorem dX16_parse_74 : decode cX16_parse 74 = .ok (.aload_n 3, 1) := dk_get daX16_parse 39 (r := (74, .aload_n 3, 1)) rfl
theorem dX16_parse_75 : decode cX16_parse 75 = .ok (.lload 4, 2) := dk_get daX16_parse 40 (r := (75, .lload 4, 2)) rfl
theorem dX16_parse_77 : decode cX16_parse 77 = .ok (.l2i, 1) := dk_get daX16_parse 41 (r := (77, .l2i, 1)) rfl
theorem dX16_parse_78 : decode cX16_parse 78 = .ok (.putfield 288, 3) := dk_get daX16_parse 42 (r := (78, .putfield 288, 3)) rfl
theorem dX16_parse_81 : decode cX16_parse 81 = .ok (.iconst 0, 1) := dk_get daX16_parse 43 (r := (81, .iconst 0, 1)) rfl
theorem dX16_parse_82 : decode cX16_parse 82 = .ok (.istore 6, 2) := dk_get daX16_parse 44 (r := (82, .istore 6, 2)) rfl
theorem dX16_parse_84 : decode cX16_parse 84 = .ok (.iload 6, 2) := dk_get daX16_parse 45 (r := (84, .iload 6, 2)) rfl
theorem dX16_parse_86 : decode cX16_parse 86 = .ok (.aload_n 3, 1) := dk_get daX16_parse 46 (r := (86, .aload_n 3, 1)) rfl
theorem dX16_parse_87 : decode cX16_parse 87 = .ok (.getfield 288, 3) := dk_get daX16_parse 47 (r := (87, .getfield 288, 3)) rfl
theorem dX16_parse_90 : decode cX16_parse 90 = .ok (.if_icmp .ge 315, 3) := dk_get daX16_parse 48 (r := (90, .if_icmp .ge 315, 3)) rfl
theorem dX16_parse_93 : decode cX16_parse 93 = .ok (.aload_n 3, 1) := dk_get daX16_parse 49 (r := (93, .aload_n 3, 1)) rfl
theorem dX16_parse_94 : decode cX16_parse 94 = .ok (.getfield 290, 3) := dk_get daX16_parse 50 (r := (94, .getfield 290, 3)) rfl
theorem dX16_parse_97 : decode cX16_parse 97 = .ok (.iload 6, 2) := dk_get daX16_parse 51 (r := (97, .iload 6, 2)) rfl
theorem dX16_parse_99 : decode cX16_parse 99 = .ok (.aload_n 0, 1) := dk_get daX16_parse 52 (r := (99, .aload_n 0, 1)) rfl
theorem dX16_parse_100 : decode cX16_parse 100 = .ok (.getfield 252, 3) := dk_get daX16_parse 53 (r := (100, .getfield 252, 3)) rfl
theorem dX16_parse_103 : decode cX16_parse 103 = .ok (.iastore, 1) := dk_get daX16_parse 54 (r := (103, .iastore, 1)) rfl
theorem dX16_parse_104 : decode cX16_parse 104 = .ok (.aload_n 0, 1) := dk_get daX16_parse 55 (r := (104, .aload_n 0, 1)) rfl
theorem dX16_parse_105 : decode cX16_parse 105 = .ok (.ldc2_w 293, 3) := dk_get daX16_parse 56 (r := (105, .ldc2_w 293, 3)) rfl
theorem dX16_parse_108 : decode cX16_parse 108 = .ok (.invokevirtual 263, 3) := dk_get daX16_parse 57 (r := (108, .invokevirtual 263, 3)) rfl
theorem dX16_parse_111 : decode cX16_parse 111 = .ok (.aload_n 0, 1) := dk_get daX16_parse 58 (r := (111, .aload_n 0, 1)) rfl
theorem dX16_parse_112 : decode cX16_parse 112 = .ok (.getfield 255, 3) := dk_get daX16_parse 59 (r := (112, .getfield 255, 3)) rfl
theorem dX16_parse_115 : decode cX16_parse 115 = .ok (.ifCond .eq 7, 3) := dk_get daX16_parse 60 (r := (115, .ifCond .eq 7, 3)) rfl
theorem dX16_parse_118 : decode cX16_parse 118 = .ok (.lconst 0, 1) := dk_get daX16_parse 61 (r := (118, .lconst 0, 1)) rfl
theorem dX16_parse_119 : decode cX16_parse 119 = .ok (.goto 7, 3) := dk_get daX16_parse 62 (r := (119, .goto 7, 3)) rfl
theorem dX16_parse_122 : decode cX16_parse 122 = .ok (.aload_n 0, 1) := dk_get daX16_parse 63 (r := (122, .aload_n 0, 1)) rfl
theorem dX16_parse_123 : decode cX16_parse 123 = .ok (.invokevirtual 282, 3) := dk_get daX16_parse 64 (r := (123, .invokevirtual 282, 3)) rfl
theorem dX16_parse_126 : decode cX16_parse 126 = .ok (.lstore 7, 2) := dk_get daX16_parse 65 (r := (126, .lstore 7, 2)) rfl
theorem dX16_parse_128 : decode cX16_parse 128 = .ok (.aload_n 0, 1) := dk_get daX16_parse 66 (r := (128, .aload_n 0, 1)) rfl
theorem dX16_parse_129 : decode cX16_parse 129 = .ok (.getfield 255, 3) := dk_get daX16_parse 67 (r := (129, .getfield 255, 3)) rfl
theorem dX16_parse_132 : decode cX16_parse 132 = .ok (.ifCond .ne 19, 3) := dk_get daX16_parse 68 (r := (132, .ifCond .ne 19, 3)) rfl
theorem dX16_parse_135 : decode cX16_parse 135 = .ok (.lload 7, 2) := dk_get daX16_parse 69 (r := (135, .lload 7, 2)) rfl
theorem dX16_parse_137 : decode cX16_parse 137 = .ok (.lconst 0, 1) := dk_get daX16_parse 70 (r := (137, .lconst 0, 1)) rfl
theorem dX16_parse_138 : decode cX16_parse 138 = .ok (.lcmp, 1) := dk_get daX16_parse 71 (r := (138, .lcmp, 1)) rfl
theorem dX16_parse_139 : decode cX16_parse 139 = .ok (.ifCond .lt 12, 3) := dk_get daX16_parse 72 (r := (139, .ifCond .lt 12, 3)) rfl
theorem dX16_parse_142 : decode cX16_parse 142 = .ok (.lload 7, 2) := dk_get daX16_parse 73 (r := (142, .lload 7, 2)) rfl
theorem dX16_parse_144 : decode cX16_parse 144 = .ok (.ldc2_w 295, 3) := dk_get daX16_parse 74 (r := (144, .ldc2_w 295, 3)) rfl
theorem dX16_parse_147 : decode cX16_parse 147 = .ok (.lcmp, 1) := dk_get daX16_parse 75 (r := (147, .lcmp, 1)) rfl
theorem dX16_parse_148 : decode cX16_parse 148 = .ok (.ifCond .le 5, 3) := dk_get daX16_parse 76 (r := (148, .ifCond .le 5, 3)) rfl
theorem dX16_parse_151 : decode cX16_parse 151 = .ok (.iconst 0, 1) := dk_get daX16_parse 77 (r := (151, .iconst 0, 1)) rfl
theorem dX16_parse_152 : decode cX16_parse 152 = .ok (.ireturn, 1) := dk_get daX16_parse 78 (r := (152, .ireturn, 1)) rfl
theorem dX16_parse_153 : decode cX16_parse 153 = .ok (.aload_n 3, 1) := dk_get daX16_parse 79 (r := (153, .aload_n 3, 1)) rfl
theorem dX16_parse_154 : decode cX16_parse 154 = .ok (.getfield 297, 3) := dk_get daX16_parse 80 (r := (154, .getfield 297, 3)) rfl
theorem dX16_parse_157 : decode cX16_parse 157 = .ok (.iload 6, 2) := dk_get daX16_parse 81 (r := (157, .iload 6, 2)) rfl
theorem dX16_parse_159 : decode cX16_parse 159 = .ok (.lload 7, 2) := dk_get daX16_parse 82 (r := (159, .lload 7, 2)) rfl
theorem dX16_parse_161 : decode cX16_parse 161 = .ok (.l2i, 1) := dk_get daX16_parse 83 (r := (161, .l2i, 1)) rfl
theorem dX16_parse_162 : decode cX16_parse 162 = .ok (.iastore, 1) := dk_get daX16_parse 84 (r := (162, .iastore, 1)) rfl
theorem dX16_parse_163 : decode cX16_parse 163 = .ok (.aload_n 3, 1) := dk_get daX16_parse 85 (r := (163, .aload_n 3, 1)) rfl
theorem dX16_parse_164 : decode cX16_parse 164 = .ok (.getfield 300, 3) := dk_get daX16_parse 86 (r := (164, .getfield 300, 3)) rfl
theorem dX16_parse_167 : decode cX16_parse 167 = .ok (.iload 6, 2) := dk_get daX16_parse 87 (r := (167, .iload 6, 2)) rfl
theorem dX16_parse_169 : decode cX16_parse 169 = .ok (.aload_n 0, 1) := dk_get daX16_parse 88 (r := (169, .aload_n 0, 1)) rfl
theorem dX16_parse_170 : decode cX16_parse 170 = .ok (.getfield 252, 3) := dk_get daX16_parse 89 (r := (170, .getfield 252, 3)) rfl
theorem dX16_parse_173 : decode cX16_parse 173 = .ok (.iastore, 1) := dk_get daX16_parse 90 (r := (173, .iastore, 1)) rfl
theorem dX16_parse_174 : decode cX16_parse 174 = .ok (.iconst 0, 1) := dk_get daX16_parse 91 (r := (174, .iconst 0, 1)) rfl
theorem dX16_parse_175 : decode cX16_parse 175 = .ok (.istore 9, 2) := dk_get daX16_parse 92 (r := (175, .istore 9, 2)) rfl
theorem dX16_parse_177 : decode cX16_parse 177 = .ok (.iload 9, 2) := dk_get daX16_parse 93 (r := (177, .iload 9, 2)) rfl
theorem dX16_parse_179 : decode cX16_parse 179 = .ok (.i2l, 1) := dk_get daX16_parse 94 (r := (179, .i2l, 1)) rfl
theorem dX16_parse_180 : decode cX16_parse 180 = .ok (.lload 7, 2) := dk_get daX16_parse 95 (r := (180, .lload 7, 2)) rfl
theorem dX16_parse_182 : decode cX16_parse 182 = .ok (.lcmp, 1) := dk_get daX16_parse 96 (r := (182, .lcmp, 1)) rfl
theorem dX16_parse_183 : decode cX16_parse 183 = .ok (.ifCond .ge 51, 3) := dk_get daX16_parse 97 (r := (183, .ifCond .ge 51, 3)) rfl
theorem dX16_parse_186 : decode cX16_parse 186 = .ok (.aload_n 0, 1) := dk_get daX16_parse 98 (r := (186, .aload_n 0, 1)) rfl
theorem dX16_parse_187 : decode cX16_parse 187 = .ok (.ldc2_w 303, 3) := dk_get daX16_parse 99 (r := (187, .ldc2_w 303, 3)) rfl
theorem dX16_parse_190 : decode cX16_parse 190 = .ok (.invokevirtual 263, 3) := dk_get daX16_parse 100 (r := (190, .invokevirtual 263, 3)) rfl
theorem dX16_parse_193 : decode cX16_parse 193 = .ok (.aload_n 0, 1) := dk_get daX16_parse 101 (r := (193, .aload_n 0, 1)) rfl
theorem dX16_parse_194 : decode cX16_parse 194 = .ok (.aload_n 0, 1) := dk_get daX16_parse 102 (r := (194, .aload_n 0, 1)) rfl
theorem dX16_parse_195 : decode cX16_parse 195 = .ok (.getfield 255, 3) := dk_get daX16_parse 103 (r := (195, .getfield 255, 3)) rfl
theorem dX16_parse_198 : decode cX16_parse 198 = .ok (.ifCond .eq 7, 3) := dk_get daX16_parse 104 (r := (198, .ifCond .eq 7, 3)) rfl
theorem dX16_parse_201 : decode cX16_parse 201 = .ok (.lconst 0, 1) := dk_get daX16_parse 105 (r := (201, .lconst 0, 1)) rfl
theorem dX16_parse_202 : decode cX16_parse 202 = .ok (.goto 7, 3) := dk_get daX16_parse 106 (r := (202, .goto 7, 3)) rfl
theorem dX16_parse_205 : decode cX16_parse 205 = .ok (.aload_n 0, 1) := dk_get daX16_parse 107 (r := (205, .aload_n 0, 1)) rfl
theorem dX16_parse_206 : decode cX16_parse 206 = .ok (.invokevirtual 282, 3) := dk_get daX16_parse 108 (r := (206, .invokevirtual 282, 3)) rfl
theorem dX16_parse_209 : decode cX16_parse 209 = .ok (.invokevirtual 263, 3) := dk_get daX16_parse 109 (r := (209, .invokevirtual 263, 3)) rfl
theorem dX16_parse_212 : decode cX16_parse 212 = .ok (.aload_n 0, 1) := dk_get daX16_parse 110 (r := (212, .aload_n 0, 1)) rfl
theorem dX16_parse_213 : decode cX16_parse 213 = .ok (.ldc2_w 293, 3) := dk_get daX16_parse 111 (r := (213, .ldc2_w 293, 3)) rfl
theorem dX16_parse_216 : decode cX16_parse 216 = .ok (.invokevirtual 263, 3) := dk_get daX16_parse 112 (r := (216, .invokevirtual 263, 3)) rfl
theorem dX16_parse_219 : decode cX16_parse 219 = .ok (.aload_n 0, 1) := dk_get daX16_parse 113 (r := (219, .aload_n 0, 1)) rfl
theorem dX16_parse_220 : decode cX16_parse 220 = .ok (.getfield 255, 3) := dk_get daX16_parse 114 (r := (220, .getfield 255, 3)) rfl
theorem dX16_parse_223 : decode cX16_parse 223 = .ok (.ifCond .eq 5, 3) := dk_get daX16_parse 115 (r := (223, .ifCond .eq 5, 3)) rfl
theorem dX16_parse_226 : decode cX16_parse 226 = .ok (.iconst 0, 1) := dk_get daX16_parse 116 (r := (226, .iconst 0, 1)) rfl
theorem dX16_parse_227 : decode cX16_parse 227 = .ok (.ireturn, 1) := dk_get daX16_parse 117 (r := (227, .ireturn, 1)) rfl
theorem dX16_parse_228 : decode cX16_parse 228 = .ok (.iinc 9 1, 3) := dk_get daX16_parse 118 (r := (228, .iinc 9 1, 3)) rfl
theorem dX16_parse_231 : decode cX16_parse 231 = .ok (.goto (-54), 3) := dk_get daX16_parse 119 (r := (231, .goto (-54), 3)) rfl
theorem dX16_parse_234 : decode cX16_parse 234 = .ok (.aload_n 0, 1) := dk_get daX16_parse 120 (r := (234, .aload_n 0, 1)) rfl
theorem dX16_parse_235 : decode cX16_parse 235 = .ok (.invokevirtual 282, 3) := dk_get daX16_parse 121 (r := (235, .invokevirtual 282, 3)) rfl
theorem dX16_parse_238 : decode cX16_parse 238 = .ok (.lstore 9, 2) := dk_get daX16_parse 122 (r := (238, .lstore 9, 2)) rfl
theorem dX16_parse_240 : decode cX16_parse 240 = .ok (.aload_n 0, 1) := dk_get daX16_parse 123 (r := (240, .aload_n 0, 1)) rfl
theorem dX16_parse_241 : decode cX16_parse 241 = .ok (.getfield 255, 3) := dk_get daX16_parse 124 (r := (241, .getfield 255, 3)) rfl
theorem dX16_parse_244 : decode cX16_parse 244 = .ok (.ifCond .ne 19, 3) := dk_get daX16_parse 125 (r := (244, .ifCond .ne 19, 3)) rfl
theorem dX16_parse_247 : decode cX16_parse 247 = .ok (.lload 9, 2) := dk_get daX16_parse 126 (r := (247, .lload 9, 2)) rfl
theorem dX16_parse_249 : decode cX16_parse 249 = .ok (.lconst 0, 1) := dk_get daX16_parse 127 (r := (249, .lconst 0, 1)) rfl
theorem dX16_parse_250 : decode cX16_parse 250 = .ok (.lcmp, 1) := dk_get daX16_parse 128 (r := (250, .lcmp, 1)) rfl
theorem dX16_parse_251 : decode cX16_parse 251 = .ok (.ifCond .lt 12, 3) := dk_get daX16_parse 129 (r := (251, .ifCond .lt 12, 3)) rfl
theorem dX16_parse_254 : decode cX16_parse 254 = .ok (.lload 9, 2) := dk_get daX16_parse 130 (r := (254, .lload 9, 2)) rfl
theorem dX16_parse_256 : decode cX16_parse 256 = .ok (.ldc2_w 305, 3) := dk_get daX16_parse 131 (r := (256, .ldc2_w 305, 3)) rfl
theorem dX16_parse_259 : decode cX16_parse 259 = .ok (.lcmp, 1) := dk_get daX16_parse 132 (r := (259, .lcmp, 1)) rfl
theorem dX16_parse_260 : decode cX16_parse 260 = .ok (.ifCond .le 5, 3) := dk_get daX16_parse 133 (r := (260, .ifCond .le 5, 3)) rfl
theorem dX16_parse_263 : decode cX16_parse 263 = .ok (.iconst 0, 1) := dk_get daX16_parse 134 (r := (263, .iconst 0, 1)) rfl
theorem dX16_parse_264 : decode cX16_parse 264 = .ok (.ireturn, 1) := dk_get daX16_parse 135 (r := (264, .ireturn, 1)) rfl
theorem dX16_parse_265 : decode cX16_parse 265 = .ok (.aload_n 3, 1) := dk_get daX16_parse 136 (r := (265, .aload_n 3, 1)) rfl
theorem dX16_parse_266 : decode cX16_parse 266 = .ok (.getfield 307, 3) := dk_get daX16_parse 137 (r := (266, .getfield 307, 3)) rfl
theorem dX16_parse_269 : decode cX16_parse 269 = .ok (.iload 6, 2) := dk_get daX16_parse 138 (r := (269, .iload 6, 2)) rfl
theorem dX16_parse_271 : decode cX16_parse 271 = .ok (.lload 9, 2) := dk_get daX16_parse 139 (r := (271, .lload 9, 2)) rfl
theorem dX16_parse_273 : decode cX16_parse 273 = .ok (.l2i, 1) := dk_get daX16_parse 140 (r := (273, .l2i, 1)) rfl
theorem dX16_parse_274 : decode cX16_parse 274 = .ok (.iastore, 1) := dk_get daX16_parse 141 (r := (274, .iastore, 1)) rfl
theorem dX16_parse_275 : decode cX16_parse 275 = .ok (.aload_n 3, 1) := dk_get daX16_parse 142 (r := (275, .aload_n 3, 1)) rfl
theorem dX16_parse_276 : decode cX16_parse 276 = .ok (.getfield 310, 3) := dk_get daX16_parse 143 (r := (276, .getfield 310, 3)) rfl
theorem dX16_parse_279 : decode cX16_parse 279 = .ok (.iload 6, 2) := dk_get daX16_parse 144 (r := (279, .iload 6, 2)) rfl
theorem dX16_parse_281 : decode cX16_parse 281 = .ok (.aload_n 0, 1) := dk_get daX16_parse 145 (r := (281, .aload_n 0, 1)) rfl
theorem dX16_parse_282 : decode cX16_parse 282 = .ok (.getfield 252, 3) := dk_get daX16_parse 146 (r := (282, .getfield 252, 3)) rfl
theorem dX16_parse_285 : decode cX16_parse 285 = .ok (.iastore, 1) := dk_get daX16_parse 147 (r := (285, .iastore, 1)) rfl
theorem dX16_parse_286 : decode cX16_parse 286 = .ok (.iconst 0, 1) := dk_get daX16_parse 148 (r := (286, .iconst 0, 1)) rfl
theorem dX16_parse_287 : decode cX16_parse 287 = .ok (.istore 11, 2) := dk_get daX16_parse 149 (r := (287, .istore 11, 2)) rfl
theorem dX16_parse_289 : decode cX16_parse 289 = .ok (.iload 11, 2) := dk_get daX16_parse 150 (r := (289, .iload 11, 2)) rfl
theorem dX16_parse_291 : decode cX16_parse 291 = .ok (.i2l, 1) := dk_get daX16_parse 151 (r := (291, .i2l, 1)) rfl
theorem dX16_parse_292 : decode cX16_parse 292 = .ok (.lload 9, 2) := dk_get daX16_parse 152 (r := (292, .lload 9, 2)) rfl
theorem dX16_parse_294 : decode cX16_parse 294 = .ok (.lcmp, 1) := dk_get daX16_parse 153 (r := (294, .lcmp, 1)) rfl
theorem dX16_parse_295 : decode cX16_parse 295 = .ok (.ifCond .ge 44, 3) := dk_get daX16_parse 154 (r := (295, .ifCond .ge 44, 3)) rfl
theorem dX16_parse_298 : decode cX16_parse 298 = .ok (.aload_n 0, 1) := dk_get daX16_parse 155 (r := (298, .aload_n 0, 1)) rfl
theorem dX16_parse_299 : decode cX16_parse 299 = .ok (.ldc2_w 51, 3) := dk_get daX16_parse 156 (r := (299, .ldc2_w 51, 3)) rfl
theorem dX16_parse_302 : decode cX16_parse 302 = .ok (.invokevirtual 263, 3) := dk_get daX16_parse 157 (r := (302, .invokevirtual 263, 3)) rfl
theorem dX16_parse_305 : decode cX16_parse 305 = .ok (.aload_n 0, 1) := dk_get daX16_parse 158 (r := (305, .aload_n 0, 1)) rfl
theorem dX16_parse_306 : decode cX16_parse 306 = .ok (.aload_n 0, 1) := dk_get daX16_parse 159 (r := (306, .aload_n 0, 1)) rfl
theorem dX16_parse_307 : decode cX16_parse 307 = .ok (.getfield 255, 3) := dk_get daX16_parse 160 (r := (307, .getfield 255, 3)) rfl
theorem dX16_parse_310 : decode cX16_parse 310 = .ok (.ifCond .eq 7, 3) := dk_get daX16_parse 161 (r := (310, .ifCond .eq 7, 3)) rfl
theorem dX16_parse_313 : decode cX16_parse 313 = .ok (.lconst 0, 1) := dk_get daX16_parse 162 (r := (313, .lconst 0, 1)) rfl
theorem dX16_parse_314 : decode cX16_parse 314 = .ok (.goto 7, 3) := dk_get daX16_parse 163 (r := (314, .goto 7, 3)) rfl
theorem dX16_parse_317 : decode cX16_parse 317 = .ok (.aload_n 0, 1) := dk_get daX16_parse 164 (r := (317, .aload_n 0, 1)) rfl
theorem dX16_parse_318 : decode cX16_parse 318 = .ok (.invokevirtual 282, 3) := dk_get daX16_parse 165 (r := (318, .invokevirtual 282, 3)) rfl
theorem dX16_parse_321 : decode cX16_parse 321 = .ok (.invokevirtual 263, 3) := dk_get daX16_parse 166 (r := (321, .invokevirtual 263, 3)) rfl
theorem dX16_parse_324 : decode cX16_parse 324 = .ok (.aload_n 0, 1) := dk_get daX16_parse 167 (r := (324, .aload_n 0, 1)) rfl
theorem dX16_parse_325 : decode cX16_parse 325 = .ok (.getfield 255, 3) := dk_get daX16_parse 168 (r := (325, .getfield 255, 3)) rfl
theorem dX16_parse_328 : decode cX16_parse 328 = .ok (.ifCond .eq 5, 3) := dk_get daX16_parse 169 (r := (328, .ifCond .eq 5, 3)) rfl
theorem dX16_parse_331 : decode cX16_parse 331 = .ok (.iconst 0, 1) := dk_get daX16_parse 170 (r := (331, .iconst 0, 1)) rfl
theorem dX16_parse_332 : decode cX16_parse 332 = .ok (.ireturn, 1) := dk_get daX16_parse 171 (r := (332, .ireturn, 1)) rfl
theorem dX16_parse_333 : decode cX16_parse 333 = .ok (.iinc 11 1, 3) := dk_get daX16_parse 172 (r := (333, .iinc 11 1, 3)) rfl
theorem dX16_parse_336 : decode cX16_parse 336 = .ok (.goto (-47), 3) := dk_get daX16_parse 173 (r := (336, .goto (-47), 3)) rfl
theorem dX16_parse_339 : decode cX16_parse 339 = .ok (.aload_n 0, 1) := dk_get daX16_parse 174 (r := (339, .aload_n 0, 1)) rfl
theorem dX16_parse_340 : decode cX16_parse 340 = .ok (.ldc2_w 293, 3) := dk_get daX16_parse 175 (r := (340, .ldc2_w 293, 3)) rfl
theorem dX16_parse_343 : decode cX16_parse 343 = .ok (.invokevirtual 263, 3) := dk_get daX16_parse 176 (r := (343, .invokevirtual 263, 3)) rfl
theorem dX16_parse_346 : decode cX16_parse 346 = .ok (.aload_n 0, 1) := dk_get daX16_parse 177 (r := (346, .aload_n 0, 1)) rfl
theorem dX16_parse_347 : decode cX16_parse 347 = .ok (.getfield 255, 3) := dk_get daX16_parse 178 (r := (347, .getfield 255, 3)) rfl
theorem dX16_parse_350 : decode cX16_parse 350 = .ok (.ifCond .eq 5, 3) := dk_get daX16_parse 179 (r := (350, .ifCond .eq 5, 3)) rfl
theorem dX16_parse_353 : decode cX16_parse 353 = .ok (.iconst 0, 1) := dk_get daX16_parse 180 (r := (353, .iconst 0, 1)) rfl
theorem dX16_parse_354 : decode cX16_parse 354 = .ok (.ireturn, 1) := dk_get daX16_parse 181 (r := (354, .ireturn, 1)) rfl
theorem dX16_parse_355 : decode cX16_parse 355 = .ok (.aload_n 3, 1) := dk_get daX16_parse 182 (r := (355, .aload_n 3, 1)) rfl
theorem dX16_parse_356 : decode cX16_parse 356 = .ok (.getfield 313, 3) := dk_get daX16_parse 183 (r := (356, .getfield 313, 3)) rfl
theorem dX16_parse_359 : decode cX16_parse 359 = .ok (.iload 6, 2) := dk_get daX16_parse 184 (r := (359, .iload 6, 2)) rfl
theorem dX16_parse_361 : decode cX16_parse 361 = .ok (.aload_n 0, 1) := dk_get daX16_parse 185 (r := (361, .aload_n 0, 1)) rfl
theorem dX16_parse_362 : decode cX16_parse 362 = .ok (.getfield 252, 3) := dk_get daX16_parse 186 (r := (362, .getfield 252, 3)) rfl
theorem dX16_parse_365 : decode cX16_parse 365 = .ok (.iastore, 1) := dk_get daX16_parse 187 (r := (365, .iastore, 1)) rfl
theorem dX16_parse_366 : decode cX16_parse 366 = .ok (.aload_n 0, 1) := dk_get daX16_parse 188 (r := (366, .aload_n 0, 1)) rfl
theorem dX16_parse_367 : decode cX16_parse 367 = .ok (.aload_n 1, 1) := dk_get daX16_parse 189 (r := (367, .aload_n 1, 1)) rfl
theorem dX16_parse_368 : decode cX16_parse 368 = .ok (.aload_n 3, 1) := dk_get daX16_parse 190 (r := (368, .aload_n 3, 1)) rfl
theorem dX16_parse_369 : decode cX16_parse 369 = .ok (.getfield 290, 3) := dk_get daX16_parse 191 (r := (369, .getfield 290, 3)) rfl
theorem dX16_parse_372 : decode cX16_parse 372 = .ok (.iload 6, 2) := dk_get daX16_parse 192 (r := (372, .iload 6, 2)) rfl
theorem dX16_parse_374 : decode cX16_parse 374 = .ok (.iaload, 1) := dk_get daX16_parse 193 (r := (374, .iaload, 1)) rfl
theorem dX16_parse_375 : decode cX16_parse 375 = .ok (.aload_n 0, 1) := dk_get daX16_parse 194 (r := (375, .aload_n 0, 1)) rfl
theorem dX16_parse_376 : decode cX16_parse 376 = .ok (.getfield 252, 3) := dk_get daX16_parse 195 (r := (376, .getfield 252, 3)) rfl
theorem dX16_parse_379 : decode cX16_parse 379 = .ok (.aload_n 3, 1) := dk_get daX16_parse 196 (r := (379, .aload_n 3, 1)) rfl
theorem dX16_parse_380 : decode cX16_parse 380 = .ok (.getfield 290, 3) := dk_get daX16_parse 197 (r := (380, .getfield 290, 3)) rfl
theorem dX16_parse_383 : decode cX16_parse 383 = .ok (.iload 6, 2) := dk_get daX16_parse 198 (r := (383, .iload 6, 2)) rfl
theorem dX16_parse_385 : decode cX16_parse 385 = .ok (.iaload, 1) := dk_get daX16_parse 199 (r := (385, .iaload, 1)) rfl
theorem dX16_parse_386 : decode cX16_parse 386 = .ok (.isub, 1) := dk_get daX16_parse 200 (r := (386, .isub, 1)) rfl
theorem dX16_parse_387 : decode cX16_parse 387 = .ok (.aload_n 3, 1) := dk_get daX16_parse 201 (r := (387, .aload_n 3, 1)) rfl
theorem dX16_parse_388 : decode cX16_parse 388 = .ok (.getfield 316, 3) := dk_get daX16_parse 202 (r := (388, .getfield 316, 3)) rfl
theorem dX16_parse_391 : decode cX16_parse 391 = .ok (.bipush 32, 2) := dk_get daX16_parse 203 (r := (391, .bipush 32, 2)) rfl
theorem dX16_parse_393 : decode cX16_parse 393 = .ok (.iload 6, 2) := dk_get daX16_parse 204 (r := (393, .iload 6, 2)) rfl
theorem dX16_parse_395 : decode cX16_parse 395 = .ok (.imul, 1) := dk_get daX16_parse 205 (r := (395, .imul, 1)) rfl
theorem dX16_parse_396 : decode cX16_parse 396 = .ok (.invokevirtual 319, 3) := dk_get daX16_parse 206 (r := (396, .invokevirtual 319, 3)) rfl
theorem dX16_parse_399 : decode cX16_parse 399 = .ok (.iinc 6 1, 3) := dk_get daX16_parse 207 (r := (399, .iinc 6 1, 3)) rfl
theorem dX16_parse_402 : decode cX16_parse 402 = .ok (.goto (-318), 3) := dk_get daX16_parse 208 (r := (402, .goto (-318), 3)) rfl
theorem dX16_parse_405 : decode cX16_parse 405 = .ok (.aload_n 0, 1) := dk_get daX16_parse 209 (r := (405, .aload_n 0, 1)) rfl
theorem dX16_parse_406 : decode cX16_parse 406 = .ok (.getfield 252, 3) := dk_get daX16_parse 210 (r := (406, .getfield 252, 3)) rfl
theorem dX16_parse_409 : decode cX16_parse 409 = .ok (.iload_n 2, 1) := dk_get daX16_parse 211 (r := (409, .iload_n 2, 1)) rfl
theorem dX16_parse_410 : decode cX16_parse 410 = .ok (.if_icmp .ne 7, 3) := dk_get daX16_parse 212 (r := (410, .if_icmp .ne 7, 3)) rfl
theorem dX16_parse_413 : decode cX16_parse 413 = .ok (.iconst 1, 1) := dk_get daX16_parse 213 (r := (413, .iconst 1, 1)) rfl
theorem dX16_parse_414 : decode cX16_parse 414 = .ok (.goto 4, 3) := dk_get daX16_parse 214 (r := (414, .goto 4, 3)) rfl
theorem dX16_parse_417 : decode cX16_parse 417 = .ok (.iconst 0, 1) := dk_get daX16_parse 215 (r := (417, .iconst 0, 1)) rfl
theorem dX16_parse_418 : decode cX16_parse 418 = .ok (.ireturn, 1) := dk_get daX16_parse 216 (r := (418, .ireturn, 1)) rfl
abbrev mX16_script : ks_M := (RX16, cX16_script, 5, (some .int), "script")
def drX16_script : List (Nat × Instr × Nat) := [(0, .aload_n 1, 1), (1, .iload_n 2, 1), (2, .baload, 1), (3, .sipush 255, 3), (6, .iand, 1), (7, .istore_n 3, 1), (8, .iload_n 3, 1), (9, .sipush 253, 3), (12, .if_icmp .ge 7, 3), (15, .iconst 0, 1), (16, .goto 27, 3), (19, .iload_n 3, 1), (20, .sipush 253, 3), (23, .if_icmp .ne 7, 3), (26, .iconst 2, 1), (27, .goto 16, 3), (30, .iload_n 3, 1), (31, .sipush 254, 3), (34, .if_icmp .ne 7, 3), (37, .iconst 4, 1), (38, .goto 5, 3), (41, .bipush 8, 2), (43, .istore 4, 2), (45, .aload_n 0, 1), (46, .iload 4, 2), (48, .ifCond .ne 7, 3), (51, .iload_n 3, 1), (52, .goto 14, 3), (55, .aload_n 0, 1), (56, .aload_n 1, 1), (57, .iload_n 2, 1), (58, .iconst 1, 1), (59, .iadd, 1), (60, .iload 4, 2), (62, .invokevirtual 267, 3), (65, .l2i, 1), (66, .putfield 322, 3), (69, .aload_n 0, 1), (70, .iload_n 2, 1), (71, .iconst 1, 1), (72, .iadd, 1), (73, .iload 4, 2), (75, .iadd, 1), (76, .putfield 325, 3), (79, .aload_n 0, 1), (80, .getfield 325, 3), (83, .aload_n 0, 1), (84, .getfield 322, 3), (87, .iadd, 1), (88, .ireturn, 1)]
set_option maxRecDepth 100000 in
theorem daX16_script : dk_all cX16_script drX16_script = true := by decide +kernel
theorem dX16_script_0 : decode cX16_script 0 = .ok (.aload_n 1, 1) := dk_get daX16_script 0 (r := (0, .aload_n 1, 1)) rfl
theorem dX16_script_1 : decode cX16_script 1 = .ok (.iload_n 2, 1) := dk_get daX16_script 1 (r := (1, .iload_n 2, 1)) rfl
theorem dX16_script_2 : decode cX16_script 2 = .ok (.baload, 1) := dk_get daX16_script 2 (r := (2, .baload, 1)) rfl
theorem dX16_script_3 : decode cX16_script 3 = .ok (.sipush 255, 3) := dk_get daX16_script 3 (r := (3, .sipush 255, 3)) rfl
theorem dX16_script_6 : decode cX16_script 6 = .ok (.iand, 1) := dk_get daX16_script 4 (r := (6, .iand, 1)) rfl
theorem dX16_script_7 : decode cX16_script 7 = .ok (.istore_n 3, 1) := dk_get daX16_script 5 (r := (7, .istore_n 3, 1)) rfl
theorem dX16_script_8 : decode cX16_script 8 = .ok (.iload_n 3, 1) := dk_get daX16_script 6 (r := (8, .iload_n 3, 1)) rfl
theorem dX16_script_9 : decode cX16_script 9 = .ok (.sipush 253, 3) := dk_get daX16_script 7 (r := (9, .sipush 253, 3)) rfl
theorem dX16_script_12 : decode cX16_script 12 = .ok (.if_icmp .ge 7, 3) := dk_get daX16_script 8 (r := (12, .if_icmp .ge 7, 3)) rfl
theorem dX16_script_15 : decode cX16_script 15 = .ok (.iconst 0, 1) := dk_get daX16_script 9 (r := (15, .iconst 0, 1)) rfl
theorem dX16_script_16 : decode cX16_script 16 = .ok (.goto 27, 3) := dk_get daX16_script 10 (r := (16, .goto 27, 3)) rfl
theorem dX16_script_19 : decode cX16_script 19 = .ok (.iload_n 3, 1) := dk_get daX16_script 11 (r := (19, .iload_n 3, 1)) rfl
theorem dX16_script_20 : decode cX16_script 20 = .ok (.sipush 253, 3) := dk_get daX16_script 12 (r := (20, .sipush 253, 3)) rfl
theorem dX16_script_23 : decode cX16_script 23 = .ok (.if_icmp .ne 7, 3) := dk_get daX16_script 13 (r := (23, .if_icmp .ne 7, 3)) rfl
theorem dX16_script_26 : decode cX16_script 26 = .ok (.iconst 2, 1) := dk_get daX16_script 14 (r := (26, .iconst 2, 1)) rfl
theorem dX16_script_27 : decode cX16_script 27 = .ok (.goto 16, 3) := dk_get daX16_script 15 (r := (27, .goto 16, 3)) rfl
theorem dX16_script_30 : decode cX16_script 30 = .ok (.iload_n 3, 1) := dk_get daX16_script 16 (r := (30, .iload_n 3, 1)) rfl
theorem dX16_script_31 : decode cX16_script 31 = .ok (.sipush 254, 3) := dk_get daX16_script 17 (r := (31, .sipush 254, 3)) rfl
theorem dX16_script_34 : decode cX16_script 34 = .ok (.if_icmp .ne 7, 3) := dk_get daX16_script 18 (r := (34, .if_icmp .ne 7, 3)) rfl
theorem dX16_script_37 : decode cX16_script 37 = .ok (.iconst 4, 1) := dk_get daX16_script 19 (r := (37, .iconst 4, 1)) rfl
theorem dX16_script_38 : decode cX16_script 38 = .ok (.goto 5, 3) := dk_get daX16_script 20 (r := (38, .goto 5, 3)) rfl
theorem dX16_script_41 : decode cX16_script 41 = .ok (.bipush 8, 2) := dk_get daX16_script 21 (r := (41, .bipush 8, 2)) rfl
theorem dX16_script_43 : decode cX16_script 43 = .ok (.istore 4, 2) := dk_get daX16_script 22 (r := (43, .istore 4, 2)) rfl
theorem dX16_script_45 : decode cX16_script 45 = .ok (.aload_n 0, 1) := dk_get daX16_script 23 (r := (45, .aload_n 0, 1)) rfl
theorem dX16_script_46 : decode cX16_script 46 = .ok (.iload 4, 2) := dk_get daX16_script 24 (r := (46, .iload 4, 2)) rfl
theorem dX16_script_48 : decode cX16_script 48 = .ok (.ifCond .ne 7, 3) := dk_get daX16_script 25 (r := (48, .ifCond .ne 7, 3)) rfl
theorem dX16_script_51 : decode cX16_script 51 = .ok (.iload_n 3, 1) := dk_get daX16_script 26 (r := (51, .iload_n 3, 1)) rfl
theorem dX16_script_52 : decode cX16_script 52 = .ok (.goto 14, 3) := dk_get daX16_script 27 (r := (52, .goto 14, 3)) rfl
theorem dX16_script_55 : decode cX16_script 55 = .ok (.aload_n 0, 1) := dk_get daX16_script 28 (r := (55, .aload_n 0, 1)) rfl
theorem dX16_script_56 : decode cX16_script 56 = .ok (.aload_n 1, 1) := dk_get daX16_script 29 (r := (56, .aload_n 1, 1)) rfl
theorem dX16_script_57 : decode cX16_script 57 = .ok (.iload_n 2, 1) := dk_get daX16_script 30 (r := (57, .iload_n 2, 1)) rfl
theorem dX16_script_58 : decode cX16_script 58 = .ok (.iconst 1, 1) := dk_get daX16_script 31 (r := (58, .iconst 1, 1)) rfl
theorem dX16_script_59 : decode cX16_script 59 = .ok (.iadd, 1) := dk_get daX16_script 32 (r := (59, .iadd, 1)) rfl
theorem dX16_script_60 : decode cX16_script 60 = .ok (.iload 4, 2) := dk_get daX16_script 33 (r := (60, .iload 4, 2)) rfl
theorem dX16_script_62 : decode cX16_script 62 = .ok (.invokevirtual 267, 3) := dk_get daX16_script 34 (r := (62, .invokevirtual 267, 3)) rfl
theorem dX16_script_65 : decode cX16_script 65 = .ok (.l2i, 1) := dk_get daX16_script 35 (r := (65, .l2i, 1)) rfl
theorem dX16_script_66 : decode cX16_script 66 = .ok (.putfield 322, 3) := dk_get daX16_script 36 (r := (66, .putfield 322, 3)) rfl
theorem dX16_script_69 : decode cX16_script 69 = .ok (.aload_n 0, 1) := dk_get daX16_script 37 (r := (69, .aload_n 0, 1)) rfl
theorem dX16_script_70 : decode cX16_script 70 = .ok (.iload_n 2, 1) := dk_get daX16_script 38 (r := (70, .iload_n 2, 1)) rfl
theorem dX16_script_71 : decode cX16_script 71 = .ok (.iconst 1, 1) := dk_get daX16_script 39 (r := (71, .iconst 1, 1)) rfl
theorem dX16_script_72 : decode cX16_script 72 = .ok (.iadd, 1) := dk_get daX16_script 40 (r := (72, .iadd, 1)) rfl
theorem dX16_script_73 : decode cX16_script 73 = .ok (.iload 4, 2) := dk_get daX16_script 41 (r := (73, .iload 4, 2)) rfl
theorem dX16_script_75 : decode cX16_script 75 = .ok (.iadd, 1) := dk_get daX16_script 42 (r := (75, .iadd, 1)) rfl
theorem dX16_script_76 : decode cX16_script 76 = .ok (.putfield 325, 3) := dk_get daX16_script 43 (r := (76, .putfield 325, 3)) rfl
theorem dX16_script_79 : decode cX16_script 79 = .ok (.aload_n 0, 1) := dk_get daX16_script 44 (r := (79, .aload_n 0, 1)) rfl
theorem dX16_script_80 : decode cX16_script 80 = .ok (.getfield 325, 3) := dk_get daX16_script 45 (r := (80, .getfield 325, 3)) rfl
theorem dX16_script_83 : decode cX16_script 83 = .ok (.aload_n 0, 1) := dk_get daX16_script 46 (r := (83, .aload_n 0, 1)) rfl
theorem dX16_script_84 : decode cX16_script 84 = .ok (.getfield 322, 3) := dk_get daX16_script 47 (r := (84, .getfield 322, 3)) rfl
theorem dX16_script_87 : decode cX16_script 87 = .ok (.iadd, 1) := dk_get daX16_script 48 (r := (87, .iadd, 1)) rfl
theorem dX16_script_88 : decode cX16_script 88 = .ok (.ireturn, 1) := dk_get daX16_script 49 (r := (88, .ireturn, 1)) rfl
abbrev mX16_input : ks_M := (RX16, cX16_input, 6, (some .int), "input")
def drX16_input : List (Nat × Instr × Nat) := [(0, .aload_n 1, 1), (1, .getfield 300, 3), (4, .iload_n 2, 1), (5, .iaload, 1), (6, .istore 4, 2), (8, .iconst 0, 1), (9, .istore 5, 2), (11, .iload 5, 2), (13, .iload_n 3, 1), (14, .if_icmp .ge 26, 3), (17, .aload_n 0, 1), (18, .aload_n 1, 1), (19, .getfield 275, 3), (22, .iload 4, 2), (24, .bipush 36, 2), (26, .iadd, 1), (27, .invokevirtual 328, 3), (30, .iconst 4, 1), (31, .iadd, 1), (32, .istore 4, 2), (34, .iinc 5 1, 3), (37, .goto (-26), 3), (40, .iload 4, 2), (42, .ireturn, 1)]
set_option maxRecDepth 100000 in
theorem daX16_input : dk_all cX16_input drX16_input = true := by decide +kernel
theorem dX16_input_0 : decode cX16_input 0 = .ok (.aload_n 1, 1) := dk_get daX16_input 0 (r := (0, .aload_n 1, 1)) rfl
theorem dX16_input_1 : decode cX16_input 1 = .ok (.getfield 300, 3) := dk_get daX16_input 1 (r := (1, .getfield 300, 3)) rfl
theorem dX16_input_4 : decode cX16_input 4 = .ok (.iload_n 2, 1) := dk_get daX16_input 2 (r := (4, .iload_n 2, 1)) rfl
theorem dX16_input_5 : decode cX16_input 5 = .ok (.iaload, 1) := dk_get daX16_input 3 (r := (5, .iaload, 1)) rfl
theorem dX16_input_6 : decode cX16_input 6 = .ok (.istore 4, 2) := dk_get daX16_input 4 (r := (6, .istore 4, 2)) rfl
theorem dX16_input_8 : decode cX16_input 8 = .ok (.iconst 0, 1) := dk_get daX16_input 5 (r := (8, .iconst 0, 1)) rfl
theorem dX16_input_9 : decode cX16_input 9 = .ok (.istore 5, 2) := dk_get daX16_input 6 (r := (9, .istore 5, 2)) rfl
theorem dX16_input_11 : decode cX16_input 11 = .ok (.iload 5, 2) := dk_get daX16_input 7 (r := (11, .iload 5, 2)) rfl
theorem dX16_input_13 : decode cX16_input 13 = .ok (.iload_n 3, 1) := dk_get daX16_input 8 (r := (13, .iload_n 3, 1)) rfl
theorem dX16_input_14 : decode cX16_input 14 = .ok (.if_icmp .ge 26, 3) := dk_get daX16_input 9 (r := (14, .if_icmp .ge 26, 3)) rfl
theorem dX16_input_17 : decode cX16_input 17 = .ok (.aload_n 0, 1) := dk_get daX16_input 10 (r := (17, .aload_n 0, 1)) rfl
theorem dX16_input_18 : decode cX16_input 18 = .ok (.aload_n 1, 1) := dk_get daX16_input 11 (r := (18, .aload_n 1, 1)) rfl
theorem dX16_input_19 : decode cX16_input 19 = .ok (.getfield 275, 3) := dk_get daX16_input 12 (r := (19, .getfield 275, 3)) rfl
theorem dX16_input_22 : decode cX16_input 22 = .ok (.iload 4, 2) := dk_get daX16_input 13 (r := (22, .iload 4, 2)) rfl
theorem dX16_input_24 : decode cX16_input 24 = .ok (.bipush 36, 2) := dk_get daX16_input 14 (r := (24, .bipush 36, 2)) rfl
theorem dX16_input_26 : decode cX16_input 26 = .ok (.iadd, 1) := dk_get daX16_input 15 (r := (26, .iadd, 1)) rfl
theorem dX16_input_27 : decode cX16_input 27 = .ok (.invokevirtual 328, 3) := dk_get daX16_input 16 (r := (27, .invokevirtual 328, 3)) rfl
theorem dX16_input_30 : decode cX16_input 30 = .ok (.iconst 4, 1) := dk_get daX16_input 17 (r := (30, .iconst 4, 1)) rfl
theorem dX16_input_31 : decode cX16_input 31 = .ok (.iadd, 1) := dk_get daX16_input 18 (r := (31, .iadd, 1)) rfl
theorem dX16_input_32 : decode cX16_input 32 = .ok (.istore 4, 2) := dk_get daX16_input 19 (r := (32, .istore 4, 2)) rfl
theorem dX16_input_34 : decode cX16_input 34 = .ok (.iinc 5 1, 3) := dk_get daX16_input 20 (r := (34, .iinc 5 1, 3)) rfl
theorem dX16_input_37 : decode cX16_input 37 = .ok (.goto (-26), 3) := dk_get daX16_input 21 (r := (37, .goto (-26), 3)) rfl
theorem dX16_input_40 : decode cX16_input 40 = .ok (.iload 4, 2) := dk_get daX16_input 22 (r := (40, .iload 4, 2)) rfl
theorem dX16_input_42 : decode cX16_input 42 = .ok (.ireturn, 1) := dk_get daX16_input 23 (r := (42, .ireturn, 1)) rfl
abbrev mX16_output : ks_M := (RX16, cX16_output, 6, (some .int), "output")
def drX16_output : List (Nat × Instr × Nat) := [(0, .aload_n 1, 1), (1, .getfield 310, 3), (4, .iload_n 2, 1), (5, .iaload, 1), (6, .istore 4, 2), (8, .iconst 0, 1), (9, .istore 5, 2), (11, .iload 5, 2), (13, .iload_n 3, 1), (14, .if_icmp .ge 24, 3), (17, .aload_n 0, 1), (18, .aload_n 1, 1), (19, .getfield 275, 3), (22, .iload 4, 2), (24, .bipush 8, 2), (26, .iadd, 1), (27, .invokevirtual 328, 3), (30, .istore 4, 2), (32, .iinc 5 1, 3), (35, .goto (-24), 3), (38, .iload 4, 2), (40, .ireturn, 1)]
set_option maxRecDepth 100000 in
theorem daX16_output : dk_all cX16_output drX16_output = true := by decide +kernel
theorem dX16_output_0 : decode cX16_output 0 = .ok (.aload_n 1, 1) := dk_get daX16_output 0 (r := (0, .aload_n 1, 1)) rfl
theorem dX16_output_1 : decode cX16_output 1 = .ok (.getfield 310, 3) := dk_get daX16_output 1 (r := (1, .getfield 310, 3)) rfl
theorem dX16_output_4 : decode cX16_output 4 = .ok (.iload_n 2, 1) := dk_get daX16_output 2 (r := (4, .iload_n 2, 1)) rfl
theorem dX16_output_5 : decode cX16_output 5 = .ok (.iaload, 1) := dk_get daX16_output 3 (r := (5, .iaload, 1)) rfl
theorem dX16_output_6 : decode cX16_output 6 = .ok (.istore 4, 2) := dk_get daX16_output 4 (r := (6, .istore 4, 2)) rfl
theorem dX16_output_8 : decode cX16_output 8 = .ok (.iconst 0, 1) := dk_get daX16_output 5 (r := (8, .iconst 0, 1)) rfl
theorem dX16_output_9 : decode cX16_output 9 = .ok (.istore 5, 2) := dk_get daX16_output 6 (r := (9, .istore 5, 2)) rfl
theorem dX16_output_11 : decode cX16_output 11 = .ok (.iload 5, 2) := dk_get daX16_output 7 (r := (11, .iload 5, 2)) rfl
theorem dX16_output_13 : decode cX16_output 13 = .ok (.iload_n 3, 1) := dk_get daX16_output 8 (r := (13, .iload_n 3, 1)) rfl
theorem dX16_output_14 : decode cX16_output 14 = .ok (.if_icmp .ge 24, 3) := dk_get daX16_output 9 (r := (14, .if_icmp .ge 24, 3)) rfl
theorem dX16_output_17 : decode cX16_output 17 = .ok (.aload_n 0, 1) := dk_get daX16_output 10 (r := (17, .aload_n 0, 1)) rfl
theorem dX16_output_18 : decode cX16_output 18 = .ok (.aload_n 1, 1) := dk_get daX16_output 11 (r := (18, .aload_n 1, 1)) rfl
theorem dX16_output_19 : decode cX16_output 19 = .ok (.getfield 275, 3) := dk_get daX16_output 12 (r := (19, .getfield 275, 3)) rfl
theorem dX16_output_22 : decode cX16_output 22 = .ok (.iload 4, 2) := dk_get daX16_output 13 (r := (22, .iload 4, 2)) rfl
theorem dX16_output_24 : decode cX16_output 24 = .ok (.bipush 8, 2) := dk_get daX16_output 14 (r := (24, .bipush 8, 2)) rfl
theorem dX16_output_26 : decode cX16_output 26 = .ok (.iadd, 1) := dk_get daX16_output 15 (r := (26, .iadd, 1)) rfl
theorem dX16_output_27 : decode cX16_output 27 = .ok (.invokevirtual 328, 3) := dk_get daX16_output 16 (r := (27, .invokevirtual 328, 3)) rfl
theorem dX16_output_30 : decode cX16_output 30 = .ok (.istore 4, 2) := dk_get daX16_output 17 (r := (30, .istore 4, 2)) rfl
theorem dX16_output_32 : decode cX16_output 32 = .ok (.iinc 5 1, 3) := dk_get daX16_output 18 (r := (32, .iinc 5 1, 3)) rfl
theorem dX16_output_35 : decode cX16_output 35 = .ok (.goto (-24), 3) := dk_get daX16_output 19 (r := (35, .goto (-24), 3)) rfl
theorem dX16_output_38 : decode cX16_output 38 = .ok (.iload 4, 2) := dk_get daX16_output 20 (r := (38, .iload 4, 2)) rfl
theorem dX16_output_40 : decode cX16_output 40 = .ok (.ireturn, 1) := dk_get daX16_output 21 (r := (40, .ireturn, 1)) rfl
abbrev mX16_target : ks_M := (RX16, cX16_target, 8, (some .boolean), "target")
def drX16_target : List (Nat × Instr × Nat) := [(0, .iload_n 0, 1), (1, .bipush 24, 2), (3, .iushr, 1), (4, .istore_n 2, 1), (5, .iload_n 0, 1), (6, .ldc_w 332, 3), (9, .iand, 1), (10, .istore_n 3, 1), (11, .iconst 0, 1), (12, .istore 4, 2), (14, .iload 4, 2), (16, .bipush 8, 2), (18, .if_icmp .ge 14, 3), (21, .aload_n 1, 1), (22, .iload 4, 2), (24, .iconst 0, 1), (25, .iastore, 1), (26, .iinc 4 1, 3), (29, .goto (-15), 3), (32, .iload_n 0, 1), (33, .ldc_w 333, 3), (36, .iand, 1), (37, .ifCond .ne 9, 3), (40, .iload_n 2, 1), (41, .bipush 32, 2), (43, .if_icmp .le 5, 3), (46, .iconst 0, 1), (47, .ireturn, 1), (48, .iconst 0, 1), (49, .istore 4, 2), (51, .iconst 0, 1), (52, .istore 5, 2), (54, .iload 5, 2), (56, .iconst 3, 1), (57, .if_icmp .ge 78, 3), (60, .iload_n 2, 1), (61, .iconst 3, 1), (62, .isub, 1), (63, .iload 5, 2), (65, .iadd, 1), (66, .istore 6, 2), (68, .iload_n 3, 1), (69, .bipush 8, 2), (71, .iload 5, 2), (73, .imul, 1), (74, .iushr, 1), (75, .sipush 255, 3), (78, .iand, 1), (79, .istore 7, 2), (81, .iload 6, 2), (83, .ifCond .lt 46, 3), (86, .iload 7, 2), (88, .ifCond .ne 6, 3), (91, .goto 38, 3), (94, .iload 6, 2), (96, .bipush 31, 2), (98, .if_icmp .le 5, 3), (101, .iconst 0, 1), (102, .ireturn, 1), (103, .aload_n 1, 1), (104, .iload 6, 2), (106, .iconst 4, 1), (107, .idiv, 1), (108, .dup2, 1), (109, .iaload, 1), (110, .iload 7, 2), (112, .bipush 8, 2), (114, .iload 6, 2), (116, .iconst 4, 1), (117, .irem, 1), (118, .imul, 1), (119, .ishl, 1), (120, .ior, 1), (121, .iastore, 1), (122, .iload 4, 2), (124, .iload 7, 2), (126, .ior, 1), (127, .istore 4, 2), (129, .iinc 5 1, 3), (132, .goto (-78), 3), (135, .iload 4, 2), (137, .ifCond .eq 7, 3), (140, .iconst 1, 1), (141, .goto 4, 3), (144, .iconst 0, 1), (145, .ireturn, 1)]
set_option maxRecDepth 100000 in
theorem daX16_target : dk_all cX16_target drX16_target = true := by decide +kernel
theorem dX16_target_0 : decode cX16_target 0 = .ok (.iload_n 0, 1) := dk_get daX16_target 0 (r := (0, .iload_n 0, 1)) rfl
theorem dX16_target_1 : decode cX16_target 1 = .ok (.bipush 24, 2) := dk_get daX16_target 1 (r := (1, .bipush 24, 2)) rfl
theorem dX16_target_3 : decode cX16_target 3 = .ok (.iushr, 1) := dk_get daX16_target 2 (r := (3, .iushr, 1)) rfl
theorem dX16_target_4 : decode cX16_target 4 = .ok (.istore_n 2, 1) := dk_get daX16_target 3 (r := (4, .istore_n 2, 1)) rfl
theorem dX16_target_5 : decode cX16_target 5 = .ok (.iload_n 0, 1) := dk_get daX16_target 4 (r := (5, .iload_n 0, 1)) rfl
theorem dX16_target_6 : decode cX16_target 6 = .ok (.ldc_w 332, 3) := dk_get daX16_target 5 (r := (6, .ldc_w 332, 3)) rfl
theorem dX16_target_9 : decode cX16_target 9 = .ok (.iand, 1) := dk_get daX16_target 6 (r := (9, .iand, 1)) rfl
theorem dX16_target_10 : decode cX16_target 10 = .ok (.istore_n 3, 1) := dk_get daX16_target 7 (r := (10, .istore_n 3, 1)) rfl
theorem dX16_target_11 : decode cX16_target 11 = .ok (.iconst 0, 1) := dk_get daX16_target 8 (r := (11, .iconst 0, 1)) rfl
theorem dX16_target_12 : decode cX16_target 12 = .ok (.istore 4, 2) := dk_get daX16_target 9 (r := (12, .istore 4, 2)) rfl
theorem dX16_target_14 : decode cX16_target 14 = .ok (.iload 4, 2) := dk_get daX16_target 10 (r := (14, .iload 4, 2)) rfl
theorem dX16_target_16 : decode cX16_target 16 = .ok (.bipush 8, 2) := dk_get daX16_target 11 (r := (16, .bipush 8, 2)) rfl
theorem dX16_target_18 : decode cX16_target 18 = .ok (.if_icmp .ge 14, 3) := dk_get daX16_target 12 (r := (18, .if_icmp .ge 14, 3)) rfl
theorem dX16_target_21 : decode cX16_target 21 = .ok (.aload_n 1, 1) := dk_get daX16_target 13 (r := (21, .aload_n 1, 1)) rfl
theorem dX16_target_22 : decode cX16_target 22 = .ok (.iload 4, 2) := dk_get daX16_target 14 (r := (22, .iload 4, 2)) rfl
theorem dX16_target_24 : decode cX16_target 24 = .ok (.iconst 0, 1) := dk_get daX16_target 15 (r := (24, .iconst 0, 1)) rfl
theorem dX16_target_25 : decode cX16_target 25 = .ok (.iastore, 1) := dk_get daX16_target 16 (r := (25, .iastore, 1)) rfl
theorem dX16_target_26 : decode cX16_target 26 = .ok (.iinc 4 1, 3) := dk_get daX16_target 17 (r := (26, .iinc 4 1, 3)) rfl
theorem dX16_target_29 : decode cX16_target 29 = .ok (.goto (-15), 3) := dk_get daX16_target 18 (r := (29, .goto (-15), 3)) rfl
theorem dX16_target_32 : decode cX16_target 32 = .ok (.iload_n 0, 1) := dk_get daX16_target 19 (r := (32, .iload_n 0, 1)) rfl
theorem dX16_target_33 : decode cX16_target 33 = .ok (.ldc_w 333, 3) := dk_get daX16_target 20 (r := (33, .ldc_w 333, 3)) rfl
theorem dX16_target_36 : decode cX16_target 36 = .ok (.iand, 1) := dk_get daX16_target 21 (r := (36, .iand, 1)) rfl
theorem dX16_target_37 : decode cX16_target 37 = .ok (.ifCond .ne 9, 3) := dk_get daX16_target 22 (r := (37, .ifCond .ne 9, 3)) rfl
theorem dX16_target_40 : decode cX16_target 40 = .ok (.iload_n 2, 1) := dk_get daX16_target 23 (r := (40, .iload_n 2, 1)) rfl
theorem dX16_target_41 : decode cX16_target 41 = .ok (.bipush 32, 2) := dk_get daX16_target 24 (r := (41, .bipush 32, 2)) rfl
theorem dX16_target_43 : decode cX16_target 43 = .ok (.if_icmp .le 5, 3) := dk_get daX16_target 25 (r := (43, .if_icmp .le 5, 3)) rfl
theorem dX16_target_46 : decode cX16_target 46 = .ok (.iconst 0, 1) := dk_get daX16_target 26 (r := (46, .iconst 0, 1)) rfl
theorem dX16_target_47 : decode cX16_target 47 = .ok (.ireturn, 1) := dk_get daX16_target 27 (r := (47, .ireturn, 1)) rfl
theorem dX16_target_48 : decode cX16_target 48 = .ok (.iconst 0, 1) := dk_get daX16_target 28 (r := (48, .iconst 0, 1)) rfl
theorem dX16_target_49 : decode cX16_target 49 = .ok (.istore 4, 2) := dk_get daX16_target 29 (r := (49, .istore 4, 2)) rfl
theorem dX16_target_51 : decode cX16_target 51 = .ok (.iconst 0, 1) := dk_get daX16_target 30 (r := (51, .iconst 0, 1)) rfl
theorem dX16_target_52 : decode cX16_target 52 = .ok (.istore 5, 2) := dk_get daX16_target 31 (r := (52, .istore 5, 2)) rfl
theorem dX16_target_54 : decode cX16_target 54 = .ok (.iload 5, 2) := dk_get daX16_target 32 (r := (54, .iload 5, 2)) rfl
theorem dX16_target_56 : decode cX16_target 56 = .ok (.iconst 3, 1) := dk_get daX16_target 33 (r := (56, .iconst 3, 1)) rfl
theorem dX16_target_57 : decode cX16_target 57 = .ok (.if_icmp .ge 78, 3) := dk_get daX16_target 34 (r := (57, .if_icmp .ge 78, 3)) rfl
theorem dX16_target_60 : decode cX16_target 60 = .ok (.iload_n 2, 1) := dk_get daX16_target 35 (r := (60, .iload_n 2, 1)) rfl
theorem dX16_target_61 : decode cX16_target 61 = .ok (.iconst 3, 1) := dk_get daX16_target 36 (r := (61, .iconst 3, 1)) rfl
theorem dX16_target_62 : decode cX16_target 62 = .ok (.isub, 1) := dk_get daX16_target 37 (r := (62, .isub, 1)) rfl
theorem dX16_target_63 : decode cX16_target 63 = .ok (.iload 5, 2) := dk_get daX16_target 38 (r := (63, .iload 5, 2)) rfl
theorem dX16_target_65 : decode cX16_target 65 = .ok (.iadd, 1) := dk_get daX16_target 39 (r := (65, .iadd, 1)) rfl
theorem dX16_target_66 : decode cX16_target 66 = .ok (.istore 6, 2) := dk_get daX16_target 40 (r := (66, .istore 6, 2)) rfl
theorem dX16_target_68 : decode cX16_target 68 = .ok (.iload_n 3, 1) := dk_get daX16_target 41 (r := (68, .iload_n 3, 1)) rfl
theorem dX16_target_69 : decode cX16_target 69 = .ok (.bipush 8, 2) := dk_get daX16_target 42 (r := (69, .bipush 8, 2)) rfl
theorem dX16_target_71 : decode cX16_target 71 = .ok (.iload 5, 2) := dk_get daX16_target 43 (r := (71, .iload 5, 2)) rfl
theorem dX16_target_73 : decode cX16_target 73 = .ok (.imul, 1) := dk_get daX16_target 44 (r := (73, .imul, 1)) rfl
theorem dX16_target_74 : decode cX16_target 74 = .ok (.iushr, 1) := dk_get daX16_target 45 (r := (74, .iushr, 1)) rfl
theorem dX16_target_75 : decode cX16_target 75 = .ok (.sipush 255, 3) := dk_get daX16_target 46 (r := (75, .sipush 255, 3)) rfl
theorem dX16_target_78 : decode cX16_target 78 = .ok (.iand, 1) := dk_get daX16_target 47 (r := (78, .iand, 1)) rfl
theorem dX16_target_79 : decode cX16_target 79 = .ok (.istore 7, 2) := dk_get daX16_target 48 (r := (79, .istore 7, 2)) rfl
theorem dX16_target_81 : decode cX16_target 81 = .ok (.iload 6, 2) := dk_get daX16_target 49 (r := (81, .iload 6, 2)) rfl
theorem dX16_target_83 : decode cX16_target 83 = .ok (.ifCond .lt 46, 3) := dk_get daX16_target 50 (r := (83, .ifCond .lt 46, 3)) rfl
theorem dX16_target_86 : decode cX16_target 86 = .ok (.iload 7, 2) := dk_get daX16_target 51 (r := (86, .iload 7, 2)) rfl
theorem dX16_target_88 : decode cX16_target 88 = .ok (.ifCond .ne 6, 3) := dk_get daX16_target 52 (r := (88, .ifCond .ne 6, 3)) rfl
theorem dX16_target_91 : decode cX16_target 91 = .ok (.goto 38, 3) := dk_get daX16_target 53 (r := (91, .goto 38, 3)) rfl
theorem dX16_target_94 : decode cX16_target 94 = .ok (.iload 6, 2) := dk_get daX16_target 54 (r := (94, .iload 6, 2)) rfl
theorem dX16_target_96 : decode cX16_target 96 = .ok (.bipush 31, 2) := dk_get daX16_target 55 (r := (96, .bipush 31, 2)) rfl
theorem dX16_target_98 : decode cX16_target 98 = .ok (.if_icmp .le 5, 3) := dk_get daX16_target 56 (r := (98, .if_icmp .le 5, 3)) rfl
theorem dX16_target_101 : decode cX16_target 101 = .ok (.iconst 0, 1) := dk_get daX16_target 57 (r := (101, .iconst 0, 1)) rfl
theorem dX16_target_102 : decode cX16_target 102 = .ok (.ireturn, 1) := dk_get daX16_target 58 (r := (102, .ireturn, 1)) rfl
theorem dX16_target_103 : decode cX16_target 103 = .ok (.aload_n 1, 1) := dk_get daX16_target 59 (r := (103, .aload_n 1, 1)) rfl
theorem dX16_target_104 : decode cX16_target 104 = .ok (.iload 6, 2) := dk_get daX16_target 60 (r := (104, .iload 6, 2)) rfl
theorem dX16_target_106 : decode cX16_target 106 = .ok (.iconst 4, 1) := dk_get daX16_target 61 (r := (106, .iconst 4, 1)) rfl
theorem dX16_target_107 : decode cX16_target 107 = .ok (.idiv, 1) := dk_get daX16_target 62 (r := (107, .idiv, 1)) rfl
theorem dX16_target_108 : decode cX16_target 108 = .ok (.dup2, 1) := dk_get daX16_target 63 (r := (108, .dup2, 1)) rfl
theorem dX16_target_109 : decode cX16_target 109 = .ok (.iaload, 1) := dk_get daX16_target 64 (r := (109, .iaload, 1)) rfl
theorem dX16_target_110 : decode cX16_target 110 = .ok (.iload 7, 2) := dk_get daX16_target 65 (r := (110, .iload 7, 2)) rfl
theorem dX16_target_112 : decode cX16_target 112 = .ok (.bipush 8, 2) := dk_get daX16_target 66 (r := (112, .bipush 8, 2)) rfl
theorem dX16_target_114 : decode cX16_target 114 = .ok (.iload 6, 2) := dk_get daX16_target 67 (r := (114, .iload 6, 2)) rfl
theorem dX16_target_116 : decode cX16_target 116 = .ok (.iconst 4, 1) := dk_get daX16_target 68 (r := (116, .iconst 4, 1)) rfl
theorem dX16_target_117 : decode cX16_target 117 = .ok (.irem, 1) := dk_get daX16_target 69 (r := (117, .irem, 1)) rfl
theorem dX16_target_118 : decode cX16_target 118 = .ok (.imul, 1) := dk_get daX16_target 70 (r := (118, .imul, 1)) rfl
theorem dX16_target_119 : decode cX16_target 119 = .ok (.ishl, 1) := dk_get daX16_target 71 (r := (119, .ishl, 1)) rfl
theorem dX16_target_120 : decode cX16_target 120 = .ok (.ior, 1) := dk_get daX16_target 72 (r := (120, .ior, 1)) rfl
theorem dX16_target_121 : decode cX16_target 121 = .ok (.iastore, 1) := dk_get daX16_target 73 (r := (121, .iastore, 1)) rfl
theorem dX16_target_122 : decode cX16_target 122 = .ok (.iload 4, 2) := dk_get daX16_target 74 (r := (122, .iload 4, 2)) rfl
theorem dX16_target_124 : decode cX16_target 124 = .ok (.iload 7, 2) := dk_get daX16_target 75 (r := (124, .iload 7, 2)) rfl
theorem dX16_target_126 : decode cX16_target 126 = .ok (.ior, 1) := dk_get daX16_target 76 (r := (126, .ior, 1)) rfl
theorem dX16_target_127 : decode cX16_target 127 = .ok (.istore 4, 2) := dk_get daX16_target 77 (r := (127, .istore 4, 2)) rfl
theorem dX16_target_129 : decode cX16_target 129 = .ok (.iinc 5 1, 3) := dk_get daX16_target 78 (r := (129, .iinc 5 1, 3)) rfl
theorem dX16_target_132 : decode cX16_target 132 = .ok (.goto (-78), 3) := dk_get daX16_target 79 (r := (132, .goto (-78), 3)) rfl
theorem dX16_target_135 : decode cX16_target 135 = .ok (.iload 4, 2) := dk_get daX16_target 80 (r := (135, .iload 4, 2)) rfl
theorem dX16_target_137 : decode cX16_target 137 = .ok (.ifCond .eq 7, 3) := dk_get daX16_target 81 (r := (137, .ifCond .eq 7, 3)) rfl
theorem dX16_target_140 : decode cX16_target 140 = .ok (.iconst 1, 1) := dk_get daX16_target 82 (r := (140, .iconst 1, 1)) rfl
theorem dX16_target_141 : decode cX16_target 141 = .ok (.goto 4, 3) := dk_get daX16_target 83 (r := (141, .goto 4, 3)) rfl
theorem dX16_target_144 : decode cX16_target 144 = .ok (.iconst 0, 1) := dk_get daX16_target 84 (r := (144, .iconst 0, 1)) rfl
theorem dX16_target_145 : decode cX16_target 145 = .ok (.ireturn, 1) := dk_get daX16_target 85 (r := (145, .ireturn, 1)) rfl
abbrev mX16_byteOf : ks_M := (RX16, cX16_byteOf, 2, (some .int), "byteOf")
def drX16_byteOf : List (Nat × Instr × Nat) := [(0, .iload_n 1, 1), (1, .ifCond .ge 7, 3), (4, .iconst 0, 1), (5, .goto 19, 3), (8, .aload_n 0, 1), (9, .iload_n 1, 1), (10, .iconst 4, 1), (11, .idiv, 1), (12, .iaload, 1), (13, .bipush 8, 2), (15, .iload_n 1, 1), (16, .iconst 4, 1), (17, .irem, 1), (18, .imul, 1), (19, .iushr, 1), (20, .sipush 255, 3), (23, .iand, 1), (24, .ireturn, 1)]
set_option maxRecDepth 100000 in
theorem daX16_byteOf : dk_all cX16_byteOf drX16_byteOf = true := by decide +kernel
theorem dX16_byteOf_0 : decode cX16_byteOf 0 = .ok (.iload_n 1, 1) := dk_get daX16_byteOf 0 (r := (0, .iload_n 1, 1)) rfl
theorem dX16_byteOf_1 : decode cX16_byteOf 1 = .ok (.ifCond .ge 7, 3) := dk_get daX16_byteOf 1 (r := (1, .ifCond .ge 7, 3)) rfl
theorem dX16_byteOf_4 : decode cX16_byteOf 4 = .ok (.iconst 0, 1) := dk_get daX16_byteOf 2 (r := (4, .iconst 0, 1)) rfl
theorem dX16_byteOf_5 : decode cX16_byteOf 5 = .ok (.goto 19, 3) := dk_get daX16_byteOf 3 (r := (5, .goto 19, 3)) rfl
theorem dX16_byteOf_8 : decode cX16_byteOf 8 = .ok (.aload_n 0, 1) := dk_get daX16_byteOf 4 (r := (8, .aload_n 0, 1)) rfl
theorem dX16_byteOf_9 : decode cX16_byteOf 9 = .ok (.iload_n 1, 1) := dk_get daX16_byteOf 5 (r := (9, .iload_n 1, 1)) rfl
theorem dX16_byteOf_10 : decode cX16_byteOf 10 = .ok (.iconst 4, 1) := dk_get daX16_byteOf 6 (r := (10, .iconst 4, 1)) rfl
theorem dX16_byteOf_11 : decode cX16_byteOf 11 = .ok (.idiv, 1) := dk_get daX16_byteOf 7 (r := (11, .idiv, 1)) rfl
theorem dX16_byteOf_12 : decode cX16_byteOf 12 = .ok (.iaload, 1) := dk_get daX16_byteOf 8 (r := (12, .iaload, 1)) rfl
theorem dX16_byteOf_13 : decode cX16_byteOf 13 = .ok (.bipush 8, 2) := dk_get daX16_byteOf 9 (r := (13, .bipush 8, 2)) rfl
theorem dX16_byteOf_15 : decode cX16_byteOf 15 = .ok (.iload_n 1, 1) := dk_get daX16_byteOf 10 (r := (15, .iload_n 1, 1)) rfl
theorem dX16_byteOf_16 : decode cX16_byteOf 16 = .ok (.iconst 4, 1) := dk_get daX16_byteOf 11 (r := (16, .iconst 4, 1)) rfl
theorem dX16_byteOf_17 : decode cX16_byteOf 17 = .ok (.irem, 1) := dk_get daX16_byteOf 12 (r := (17, .irem, 1)) rfl
theorem dX16_byteOf_18 : decode cX16_byteOf 18 = .ok (.imul, 1) := dk_get daX16_byteOf 13 (r := (18, .imul, 1)) rfl
theorem dX16_byteOf_19 : decode cX16_byteOf 19 = .ok (.iushr, 1) := dk_get daX16_byteOf 14 (r := (19, .iushr, 1)) rfl
theorem dX16_byteOf_20 : decode cX16_byteOf 20 = .ok (.sipush 255, 3) := dk_get daX16_byteOf 15 (r := (20, .sipush 255, 3)) rfl
theorem dX16_byteOf_23 : decode cX16_byteOf 23 = .ok (.iand, 1) := dk_get daX16_byteOf 16 (r := (23, .iand, 1)) rfl
theorem dX16_byteOf_24 : decode cX16_byteOf 24 = .ok (.ireturn, 1) := dk_get daX16_byteOf 17 (r := (24, .ireturn, 1)) rfl
abbrev mX16_bits : ks_M := (RX16, cX16_bits, 3, (some .int), "bits")
def drX16_bits : List (Nat × Instr × Nat) := [(0, .bipush 32, 2), (2, .istore_n 1, 1), (3, .iload_n 1, 1), (4, .ifCond .le 19, 3), (7, .aload_n 0, 1), (8, .iload_n 1, 1), (9, .iconst 1, 1), (10, .isub, 1), (11, .invokestatic 334, 3), (14, .ifCond .ne 9, 3), (17, .iinc 1 (-1), 3), (20, .goto (-17), 3), (23, .aload_n 0, 1), (24, .iload_n 1, 1), (25, .iconst 1, 1), (26, .isub, 1), (27, .invokestatic 334, 3), (30, .bipush 16, 2), (32, .ishl, 1), (33, .aload_n 0, 1), (34, .iload_n 1, 1), (35, .iconst 2, 1), (36, .isub, 1), (37, .invokestatic 334, 3), (40, .bipush 8, 2), (42, .ishl, 1), (43, .ior, 1), (44, .aload_n 0, 1), (45, .iload_n 1, 1), (46, .iconst 3, 1), (47, .isub, 1), (48, .invokestatic 334, 3), (51, .ior, 1), (52, .istore_n 2, 1), (53, .iload_n 2, 1), (54, .ldc_w 333, 3), (57, .if_icmp .lt 11, 3), (60, .iload_n 2, 1), (61, .bipush 8, 2), (63, .ishr, 1), (64, .istore_n 2, 1), (65, .iinc 1 1, 3), (68, .iload_n 1, 1), (69, .bipush 24, 2), (71, .ishl, 1), (72, .iload_n 2, 1), (73, .ior, 1), (74, .ireturn, 1)]
set_option maxRecDepth 100000 in
theorem daX16_bits : dk_all cX16_bits drX16_bits = true := by decide +kernel
theorem dX16_bits_0 : decode cX16_bits 0 = .ok (.bipush 32, 2) := dk_get daX16_bits 0 (r := (0, .bipush 32, 2)) rfl
theorem dX16_bits_2 : decode cX16_bits 2 = .ok (.istore_n 1, 1) := dk_get daX16_bits 1 (r := (2, .istore_n 1, 1)) rfl
theorem dX16_bits_3 : decode cX16_bits 3 = .ok (.iload_n 1, 1) := dk_get daX16_bits 2 (r := (3, .iload_n 1, 1)) rfl
theorem dX16_bits_4 : decode cX16_bits 4 = .ok (.ifCond .le 19, 3) := dk_get daX16_bits 3 (r := (4, .ifCond .le 19, 3)) rfl
theorem dX16_bits_7 : decode cX16_bits 7 = .ok (.aload_n 0, 1) := dk_get daX16_bits 4 (r := (7, .aload_n 0, 1)) rfl
theorem dX16_bits_8 : decode cX16_bits 8 = .ok (.iload_n 1, 1) := dk_get daX16_bits 5 (r := (8, .iload_n 1, 1)) rfl
theorem dX16_bits_9 : decode cX16_bits 9 = .ok (.iconst 1, 1) := dk_get daX16_bits 6 (r := (9, .iconst 1, 1)) rfl
theorem dX16_bits_10 : decode cX16_bits 10 = .ok (.isub, 1) := dk_get daX16_bits 7 (r := (10, .isub, 1)) rfl
theorem dX16_bits_11 : decode cX16_bits 11 = .ok (.invokestatic 334, 3) := dk_get daX16_bits 8 (r := (11, .invokestatic 334, 3)) rfl
theorem dX16_bits_14 : decode cX16_bits 14 = .ok (.ifCond .ne 9, 3) := dk_get daX16_bits 9 (r := (14, .ifCond .ne 9, 3)) rfl
theorem dX16_bits_17 : decode cX16_bits 17 = .ok (.iinc 1 (-1), 3) := dk_get daX16_bits 10 (r := (17, .iinc 1 (-1), 3)) rfl
theorem dX16_bits_20 : decode cX16_bits 20 = .ok (.goto (-17), 3) := dk_get daX16_bits 11 (r := (20, .goto (-17), 3)) rfl
theorem dX16_bits_23 : decode cX16_bits 23 = .ok (.aload_n 0, 1) := dk_get daX16_bits 12 (r := (23, .aload_n 0, 1)) rfl
theorem dX16_bits_24 : decode cX16_bits 24 = .ok (.iload_n 1, 1) := dk_get daX16_bits 13 (r := (24, .iload_n 1, 1)) rfl
theorem dX16_bits_25 : decode cX16_bits 25 = .ok (.iconst 1, 1) := dk_get daX16_bits 14 (r := (25, .iconst 1, 1)) rfl
theorem dX16_bits_26 : decode cX16_bits 26 = .ok (.isub, 1) := dk_get daX16_bits 15 (r := (26, .isub, 1)) rfl
theorem dX16_bits_27 : decode cX16_bits 27 = .ok (.invokestatic 334, 3) := dk_get daX16_bits 16 (r := (27, .invokestatic 334, 3)) rfl
theorem dX16_bits_30 : decode cX16_bits 30 = .ok (.bipush 16, 2) := dk_get daX16_bits 17 (r := (30, .bipush 16, 2)) rfl
theorem dX16_bits_32 : decode cX16_bits 32 = .ok (.ishl, 1) := dk_get daX16_bits 18 (r := (32, .ishl, 1)) rfl
theorem dX16_bits_33 : decode cX16_bits 33 = .ok (.aload_n 0, 1) := dk_get daX16_bits 19 (r := (33, .aload_n 0, 1)) rfl
theorem dX16_bits_34 : decode cX16_bits 34 = .ok (.iload_n 1, 1) := dk_get daX16_bits 20 (r := (34, .iload_n 1, 1)) rfl
theorem dX16_bits_35 : decode cX16_bits 35 = .ok (.iconst 2, 1) := dk_get daX16_bits 21 (r := (35, .iconst 2, 1)) rfl
theorem dX16_bits_36 : decode cX16_bits 36 = .ok (.isub, 1) := dk_get daX16_bits 22 (r := (36, .isub, 1)) rfl
theorem dX16_bits_37 : decode cX16_bits 37 = .ok (.invokestatic 334, 3) := dk_get daX16_bits 23 (r := (37, .invokestatic 334, 3)) rfl
theorem dX16_bits_40 : decode cX16_bits 40 = .ok (.bipush 8, 2) := dk_get daX16_bits 24 (r := (40, .bipush 8, 2)) rfl
theorem dX16_bits_42 : decode cX16_bits 42 = .ok (.ishl, 1) := dk_get daX16_bits 25 (r := (42, .ishl, 1)) rfl
theorem dX16_bits_43 : decode cX16_bits 43 = .ok (.ior, 1) := dk_get daX16_bits 26 (r := (43, .ior, 1)) rfl
theorem dX16_bits_44 : decode cX16_bits 44 = .ok (.aload_n 0, 1) := dk_get daX16_bits 27 (r := (44, .aload_n 0, 1)) rfl
theorem dX16_bits_45 : decode cX16_bits 45 = .ok (.iload_n 1, 1) := dk_get daX16_bits 28 (r := (45, .iload_n 1, 1)) rfl
theorem dX16_bits_46 : decode cX16_bits 46 = .ok (.iconst 3, 1) := dk_get daX16_bits 29 (r := (46, .iconst 3, 1)) rfl
theorem dX16_bits_47 : decode cX16_bits 47 = .ok (.isub, 1) := dk_get daX16_bits 30 (r := (47, .isub, 1)) rfl
theorem dX16_bits_48 : decode cX16_bits 48 = .ok (.invokestatic 334, 3) := dk_get daX16_bits 31 (r := (48, .invokestatic 334, 3)) rfl
theorem dX16_bits_51 : decode cX16_bits 51 = .ok (.ior, 1) := dk_get daX16_bits 32 (r := (51, .ior, 1)) rfl
theorem dX16_bits_52 : decode cX16_bits 52 = .ok (.istore_n 2, 1) := dk_get daX16_bits 33 (r := (52, .istore_n 2, 1)) rfl
theorem dX16_bits_53 : decode cX16_bits 53 = .ok (.iload_n 2, 1) := dk_get daX16_bits 34 (r := (53, .iload_n 2, 1)) rfl
theorem dX16_bits_54 : decode cX16_bits 54 = .ok (.ldc_w 333, 3) := dk_get daX16_bits 35 (r := (54, .ldc_w 333, 3)) rfl
theorem dX16_bits_57 : decode cX16_bits 57 = .ok (.if_icmp .lt 11, 3) := dk_get daX16_bits 36 (r := (57, .if_icmp .lt 11, 3)) rfl
theorem dX16_bits_60 : decode cX16_bits 60 = .ok (.iload_n 2, 1) := dk_get daX16_bits 37 (r := (60, .iload_n 2, 1)) rfl
theorem dX16_bits_61 : decode cX16_bits 61 = .ok (.bipush 8, 2) := dk_get daX16_bits 38 (r := (61, .bipush 8, 2)) rfl
theorem dX16_bits_63 : decode cX16_bits 63 = .ok (.ishr, 1) := dk_get daX16_bits 39 (r := (63, .ishr, 1)) rfl
theorem dX16_bits_64 : decode cX16_bits 64 = .ok (.istore_n 2, 1) := dk_get daX16_bits 40 (r := (64, .istore_n 2, 1)) rfl
theorem dX16_bits_65 : decode cX16_bits 65 = .ok (.iinc 1 1, 3) := dk_get daX16_bits 41 (r := (65, .iinc 1 1, 3)) rfl
theorem dX16_bits_68 : decode cX16_bits 68 = .ok (.iload_n 1, 1) := dk_get daX16_bits 42 (r := (68, .iload_n 1, 1)) rfl
theorem dX16_bits_69 : decode cX16_bits 69 = .ok (.bipush 24, 2) := dk_get daX16_bits 43 (r := (69, .bipush 24, 2)) rfl
theorem dX16_bits_71 : decode cX16_bits 71 = .ok (.ishl, 1) := dk_get daX16_bits 44 (r := (71, .ishl, 1)) rfl
theorem dX16_bits_72 : decode cX16_bits 72 = .ok (.iload_n 2, 1) := dk_get daX16_bits 45 (r := (72, .iload_n 2, 1)) rfl
theorem dX16_bits_73 : decode cX16_bits 73 = .ok (.ior, 1) := dk_get daX16_bits 46 (r := (73, .ior, 1)) rfl
theorem dX16_bits_74 : decode cX16_bits 74 = .ok (.ireturn, 1) := dk_get daX16_bits 47 (r := (74, .ireturn, 1)) rfl
abbrev mX16_work : ks_M := (RX16, cX16_work, 6, none, "work")
def drX16_work : List (Nat × Instr × Nat) := [(0, .iconst 0, 1), (1, .istore_n 3, 1), (2, .iload_n 3, 1), (3, .bipush 8, 2), (5, .if_icmp .ge 35, 3), (8, .aload_n 0, 1), (9, .getfield 338, 3), (12, .iload_n 3, 1), (13, .iload_n 3, 1), (14, .ifCond .ne 7, 3), (17, .iconst 1, 1), (18, .goto 4, 3), (21, .iconst 0, 1), (22, .iastore, 1), (23, .aload_n 0, 1), (24, .getfield 339, 3), (27, .iload_n 3, 1), (28, .iconst 0, 1), (29, .iastore, 1), (30, .aload_n 2, 1), (31, .iload_n 3, 1), (32, .iconst 0, 1), (33, .iastore, 1), (34, .iinc 3 1, 3), (37, .goto (-35), 3), (40, .aload_n 0, 1), (41, .getfield 342, 3), (44, .astore_n 3, 1), (45, .aload_n 1, 1), (46, .aload_n 0, 1), (47, .getfield 338, 3), (50, .aload_n 3, 1), (51, .invokestatic 345, 3), (54, .pop2, 1), (55, .sipush 255, 3), (58, .istore 4, 2), (60, .iload 4, 2), (62, .ifCond .lt 110, 3), (65, .aload_n 0, 1), (66, .getfield 339, 3), (69, .bipush 7, 2), (71, .iaload, 1), (72, .bipush 31, 2), (74, .iushr, 1), (75, .istore 5, 2), (77, .aload_n 0, 1), (78, .getfield 339, 3), (81, .aload_n 0, 1), (82, .getfield 339, 3), (85, .aload_n 0, 1), (86, .getfield 339, 3), (89, .invokestatic 345, 3), (92, .pop2, 1), (93, .aload_n 0, 1), (94, .getfield 339, 3), (97, .iconst 0, 1), (98, .dup2, 1), (99, .iaload, 1), (100, .aload_n 1, 1), (101, .iload 4, 2), (103, .bipush 32, 2), (105, .idiv, 1), (106, .iaload, 1), (107, .iconst (-1), 1), (108, .ixor, 1), (109, .iload 4, 2), (111, .bipush 32, 2), (113, .irem, 1), (114, .ishr, 1), (115, .iconst 1, 1), (116, .iand, 1), (117, .ior, 1), (118, .iastore, 1), (119, .iload 5, 2), (121, .iconst 1, 1), (122, .if_icmp .eq 14, 3), (125, .aload_n 0, 1), (126, .getfield 339, 3), (129, .aload_n 3, 1), (130, .invokestatic 165, 3), (133, .ifCond .lt 33, 3), (136, .aload_n 0, 1), (137, .getfield 339, 3), (140, .aload_n 3, 1), (141, .aload_n 0, 1), (142, .getfield 339, 3), (145, .invokestatic 241, 3), (148, .pop2, 1), (149, .aload_n 2, 1), (150, .iload 4, 2), (152, .bipush 32, 2), (154, .idiv, 1), (155, .dup2, 1), (156, .iaload, 1), (157, .iconst 1, 1), (158, .iload 4, 2), (160, .bipush 32, 2), (162, .irem, 1), (163, .ishl, 1), (164, .ior, 1), (165, .iastore, 1), (166, .iinc 4 (-1), 3), (169, .goto (-109), 3), (172, .aload_n 2, 1), (173, .aload_n 0, 1), (174, .getfield 338, 3), (177, .aload_n 2, 1), (178, .invokestatic 345, 3), (181, .pop2, 1), (182, .return_, 1)]
set_option maxRecDepth 100000 in
theorem daX16_work : dk_all cX16_work drX16_work = true := by decide +kernel
theorem dX16_work_0 : decode cX16_work 0 = .ok (.iconst 0, 1) := dk_get daX16_work 0 (r := (0, .iconst 0, 1)) rfl
theorem dX16_work_1 : decode cX16_work 1 = .ok (.istore_n 3, 1) := dk_get daX16_work 1 (r := (1, .istore_n 3, 1)) rfl
theorem dX16_work_2 : decode cX16_work 2 = .ok (.iload_n 3, 1) := dk_get daX16_work 2 (r := (2, .iload_n 3, 1)) rfl
theorem dX16_work_3 : decode cX16_work 3 = .ok (.bipush 8, 2) := dk_get daX16_work 3 (r := (3, .bipush 8, 2)) rfl
theorem dX16_work_5 : decode cX16_work 5 = .ok (.if_icmp .ge 35, 3) := dk_get daX16_work 4 (r := (5, .if_icmp .ge 35, 3)) rfl
theorem dX16_work_8 : decode cX16_work 8 = .ok (.aload_n 0, 1) := dk_get daX16_work 5 (r := (8, .aload_n 0, 1)) rfl
theorem dX16_work_9 : decode cX16_work 9 = .ok (.getfield 338, 3) := dk_get daX16_work 6 (r := (9, .getfield 338, 3)) rfl
theorem dX16_work_12 : decode cX16_work 12 = .ok (.iload_n 3, 1) := dk_get daX16_work 7 (r := (12, .iload_n 3, 1)) rfl
theorem dX16_work_13 : decode cX16_work 13 = .ok (.iload_n 3, 1) := dk_get daX16_work 8 (r := (13, .iload_n 3, 1)) rfl
theorem dX16_work_14 : decode cX16_work 14 = .ok (.ifCond .ne 7, 3) := dk_get daX16_work 9 (r := (14, .ifCond .ne 7, 3)) rfl
theorem dX16_work_17 : decode cX16_work 17 = .ok (.iconst 1, 1) := dk_get daX16_work 10 (r := (17, .iconst 1, 1)) rfl
theorem dX16_work_18 : decode cX16_work 18 = .ok (.goto 4, 3) := dk_get daX16_work 11 (r := (18, .goto 4, 3)) rfl
theorem dX16_work_21 : decode cX16_work 21 = .ok (.iconst 0, 1) := dk_get daX16_work 12 (r := (21, .iconst 0, 1)) rfl
theorem dX16_work_22 : decode cX16_work 22 = .ok (.iastore, 1) := dk_get daX16_work 13 (r := (22, .iastore, 1)) rfl
theorem dX16_work_23 : decode cX16_work 23 = .ok (.aload_n 0, 1) := dk_get daX16_work 14 (r := (23, .aload_n 0, 1)) rfl
theorem dX16_work_24 : decode cX16_work 24 = .ok (.getfield 339, 3) := dk_get daX16_work 15 (r := (24, .getfield 339, 3)) rfl
theorem dX16_work_27 : decode cX16_work 27 = .ok (.iload_n 3, 1) := dk_get daX16_work 16 (r := (27, .iload_n 3, 1)) rfl
theorem dX16_work_28 : decode cX16_work 28 = .ok (.iconst 0, 1) := dk_get daX16_work 17 (r := (28, .iconst 0, 1)) rfl
theorem dX16_work_29 : decode cX16_work 29 = .ok (.iastore, 1) := dk_get daX16_work 18 (r := (29, .iastore, 1)) rfl
theorem dX16_work_30 : decode cX16_work 30 = .ok (.aload_n 2, 1) := dk_get daX16_work 19 (r := (30, .aload_n 2, 1)) rfl
theorem dX16_work_31 : decode cX16_work 31 = .ok (.iload_n 3, 1) := dk_get daX16_work 20 (r := (31, .iload_n 3, 1)) rfl
theorem dX16_work_32 : decode cX16_work 32 = .ok (.iconst 0, 1) := dk_get daX16_work 21 (r := (32, .iconst 0, 1)) rfl
theorem dX16_work_33 : decode cX16_work 33 = .ok (.iastore, 1) := dk_get daX16_work 22 (r := (33, .iastore, 1)) rfl
theorem dX16_work_34 : decode cX16_work 34 = .ok (.iinc 3 1, 3) := dk_get daX16_work 23 (r := (34, .iinc 3 1, 3)) rfl
theorem dX16_work_37 : decode cX16_work 37 = .ok (.goto (-35), 3) := dk_get daX16_work 24 (r := (37, .goto (-35), 3)) rfl
theorem dX16_work_40 : decode cX16_work 40 = .ok (.aload_n 0, 1) := dk_get daX16_work 25 (r := (40, .aload_n 0, 1)) rfl
theorem dX16_work_41 : decode cX16_work 41 = .ok (.getfield 342, 3) := dk_get daX16_work 26 (r := (41, .getfield 342, 3)) rfl
theorem dX16_work_44 : decode cX16_work 44 = .ok (.astore_n 3, 1) := dk_get daX16_work 27 (r := (44, .astore_n 3, 1)) rfl
theorem dX16_work_45 : decode cX16_work 45 = .ok (.aload_n 1, 1) := dk_get daX16_work 28 (r := (45, .aload_n 1, 1)) rfl
theorem dX16_work_46 : decode cX16_work 46 = .ok (.aload_n 0, 1) := dk_get daX16_work 29 (r := (46, .aload_n 0, 1)) rfl
theorem dX16_work_47 : decode cX16_work 47 = .ok (.getfield 338, 3) := dk_get daX16_work 30 (r := (47, .getfield 338, 3)) rfl
theorem dX16_work_50 : decode cX16_work 50 = .ok (.aload_n 3, 1) := dk_get daX16_work 31 (r := (50, .aload_n 3, 1)) rfl
theorem dX16_work_51 : decode cX16_work 51 = .ok (.invokestatic 345, 3) := dk_get daX16_work 32 (r := (51, .invokestatic 345, 3)) rfl
theorem dX16_work_54 : decode cX16_work 54 = .ok (.pop2, 1) := dk_get daX16_work 33 (r := (54, .pop2, 1)) rfl
theorem dX16_work_55 : decode cX16_work 55 = .ok (.sipush 255, 3) := dk_get daX16_work 34 (r := (55, .sipush 255, 3)) rfl
theorem dX16_work_58 : decode cX16_work 58 = .ok (.istore 4, 2) := dk_get daX16_work 35 (r := (58, .istore 4, 2)) rfl
theorem dX16_work_60 : decode cX16_work 60 = .ok (.iload 4, 2) := dk_get daX16_work 36 (r := (60, .iload 4, 2)) rfl
theorem dX16_work_62 : decode cX16_work 62 = .ok (.ifCond .lt 110, 3) := dk_get daX16_work 37 (r := (62, .ifCond .lt 110, 3)) rfl
theorem dX16_work_65 : decode cX16_work 65 = .ok (.aload_n 0, 1) := dk_get daX16_work 38 (r := (65, .aload_n 0, 1)) rfl
theorem dX16_work_66 : decode cX16_work 66 = .ok (.getfield 339, 3) := dk_get daX16_work 39 (r := (66, .getfield 339, 3)) rfl
theorem dX16_work_69 : decode cX16_work 69 = .ok (.bipush 7, 2) := dk_get daX16_work 40 (r := (69, .bipush 7, 2)) rfl
theorem dX16_work_71 : decode cX16_work 71 = .ok (.iaload, 1) := dk_get daX16_work 41 (r := (71, .iaload, 1)) rfl
theorem dX16_work_72 : decode cX16_work 72 = .ok (.bipush 31, 2) := dk_get daX16_work 42 (r := (72, .bipush 31, 2)) rfl
theorem dX16_work_74 : decode cX16_work 74 = .ok (.iushr, 1) := dk_get daX16_work 43 (r := (74, .iushr, 1)) rfl
theorem dX16_work_75 : decode cX16_work 75 = .ok (.istore 5, 2) := dk_get daX16_work 44 (r := (75, .istore 5, 2)) rfl
theorem dX16_work_77 : decode cX16_work 77 = .ok (.aload_n 0, 1) := dk_get daX16_work 45 (r := (77, .aload_n 0, 1)) rfl
theorem dX16_work_78 : decode cX16_work 78 = .ok (.getfield 339, 3) := dk_get daX16_work 46 (r := (78, .getfield 339, 3)) rfl
theorem dX16_work_81 : decode cX16_work 81 = .ok (.aload_n 0, 1) := dk_get daX16_work 47 (r := (81, .aload_n 0, 1)) rfl
theorem dX16_work_82 : decode cX16_work 82 = .ok (.getfield 339, 3) := dk_get daX16_work 48 (r := (82, .getfield 339, 3)) rfl
theorem dX16_work_85 : decode cX16_work 85 = .ok (.aload_n 0, 1) := dk_get daX16_work 49 (r := (85, .aload_n 0, 1)) rfl
theorem dX16_work_86 : decode cX16_work 86 = .ok (.getfield 339, 3) := dk_get daX16_work 50 (r := (86, .getfield 339, 3)) rfl
theorem dX16_work_89 : decode cX16_work 89 = .ok (.invokestatic 345, 3) := dk_get daX16_work 51 (r := (89, .invokestatic 345, 3)) rfl
theorem dX16_work_92 : decode cX16_work 92 = .ok (.pop2, 1) := dk_get daX16_work 52 (r := (92, .pop2, 1)) rfl
theorem dX16_work_93 : decode cX16_work 93 = .ok (.aload_n 0, 1) := dk_get daX16_work 53 (r := (93, .aload_n 0, 1)) rfl
theorem dX16_work_94 : decode cX16_work 94 = .ok (.getfield 339, 3) := dk_get daX16_work 54 (r := (94, .getfield 339, 3)) rfl
theorem dX16_work_97 : decode cX16_work 97 = .ok (.iconst 0, 1) := dk_get daX16_work 55 (r := (97, .iconst 0, 1)) rfl
theorem dX16_work_98 : decode cX16_work 98 = .ok (.dup2, 1) := dk_get daX16_work 56 (r := (98, .dup2, 1)) rfl
theorem dX16_work_99 : decode cX16_work 99 = .ok (.iaload, 1) := dk_get daX16_work 57 (r := (99, .iaload, 1)) rfl
theorem dX16_work_100 : decode cX16_work 100 = .ok (.aload_n 1, 1) := dk_get daX16_work 58 (r := (100, .aload_n 1, 1)) rfl
theorem dX16_work_101 : decode cX16_work 101 = .ok (.iload 4, 2) := dk_get daX16_work 59 (r := (101, .iload 4, 2)) rfl
theorem dX16_work_103 : decode cX16_work 103 = .ok (.bipush 32, 2) := dk_get daX16_work 60 (r := (103, .bipush 32, 2)) rfl
theorem dX16_work_105 : decode cX16_work 105 = .ok (.idiv, 1) := dk_get daX16_work 61 (r := (105, .idiv, 1)) rfl
theorem dX16_work_106 : decode cX16_work 106 = .ok (.iaload, 1) := dk_get daX16_work 62 (r := (106, .iaload, 1)) rfl
theorem dX16_work_107 : decode cX16_work 107 = .ok (.iconst (-1), 1) := dk_get daX16_work 63 (r := (107, .iconst (-1), 1)) rfl
theorem dX16_work_108 : decode cX16_work 108 = .ok (.ixor, 1) := dk_get daX16_work 64 (r := (108, .ixor, 1)) rfl
theorem dX16_work_109 : decode cX16_work 109 = .ok (.iload 4, 2) := dk_get daX16_work 65 (r := (109, .iload 4, 2)) rfl
theorem dX16_work_111 : decode cX16_work 111 = .ok (.bipush 32, 2) := dk_get daX16_work 66 (r := (111, .bipush 32, 2)) rfl
theorem dX16_work_113 : decode cX16_work 113 = .ok (.irem, 1) := dk_get daX16_work 67 (r := (113, .irem, 1)) rfl
theorem dX16_work_114 : decode cX16_work 114 = .ok (.ishr, 1) := dk_get daX16_work 68 (r := (114, .ishr, 1)) rfl
theorem dX16_work_115 : decode cX16_work 115 = .ok (.iconst 1, 1) := dk_get daX16_work 69 (r := (115, .iconst 1, 1)) rfl
theorem dX16_work_116 : decode cX16_work 116 = .ok (.iand, 1) := dk_get daX16_work 70 (r := (116, .iand, 1)) rfl
theorem dX16_work_117 : decode cX16_work 117 = .ok (.ior, 1) := dk_get daX16_work 71 (r := (117, .ior, 1)) rfl
theorem dX16_work_118 : decode cX16_work 118 = .ok (.iastore, 1) := dk_get daX16_work 72 (r := (118, .iastore, 1)) rfl
theorem dX16_work_119 : decode cX16_work 119 = .ok (.iload 5, 2) := dk_get daX16_work 73 (r := (119, .iload 5, 2)) rfl
theorem dX16_work_121 : decode cX16_work 121 = .ok (.iconst 1, 1) := dk_get daX16_work 74 (r := (121, .iconst 1, 1)) rfl
theorem dX16_work_122 : decode cX16_work 122 = .ok (.if_icmp .eq 14, 3) := dk_get daX16_work 75 (r := (122, .if_icmp .eq 14, 3)) rfl
theorem dX16_work_125 : decode cX16_work 125 = .ok (.aload_n 0, 1) := dk_get daX16_work 76 (r := (125, .aload_n 0, 1)) rfl
theorem dX16_work_126 : decode cX16_work 126 = .ok (.getfield 339, 3) := dk_get daX16_work 77 (r := (126, .getfield 339, 3)) rfl
theorem dX16_work_129 : decode cX16_work 129 = .ok (.aload_n 3, 1) := dk_get daX16_work 78 (r := (129, .aload_n 3, 1)) rfl
theorem dX16_work_130 : decode cX16_work 130 = .ok (.invokestatic 165, 3) := dk_get daX16_work 79 (r := (130, .invokestatic 165, 3)) rfl
theorem dX16_work_133 : decode cX16_work 133 = .ok (.ifCond .lt 33, 3) := dk_get daX16_work 80 (r := (133, .ifCond .lt 33, 3)) rfl
theorem dX16_work_136 : decode cX16_work 136 = .ok (.aload_n 0, 1) := dk_get daX16_work 81 (r := (136, .aload_n 0, 1)) rfl
theorem dX16_work_137 : decode cX16_work 137 = .ok (.getfield 339, 3) := dk_get daX16_work 82 (r := (137, .getfield 339, 3)) rfl
theorem dX16_work_140 : decode cX16_work 140 = .ok (.aload_n 3, 1) := dk_get daX16_work 83 (r := (140, .aload_n 3, 1)) rfl
theorem dX16_work_141 : decode cX16_work 141 = .ok (.aload_n 0, 1) := dk_get daX16_work 84 (r := (141, .aload_n 0, 1)) rfl
theorem dX16_work_142 : decode cX16_work 142 = .ok (.getfield 339, 3) := dk_get daX16_work 85 (r := (142, .getfield 339, 3)) rfl
theorem dX16_work_145 : decode cX16_work 145 = .ok (.invokestatic 241, 3) := dk_get daX16_work 86 (r := (145, .invokestatic 241, 3)) rfl
theorem dX16_work_148 : decode cX16_work 148 = .ok (.pop2, 1) := dk_get daX16_work 87 (r := (148, .pop2, 1)) rfl
theorem dX16_work_149 : decode cX16_work 149 = .ok (.aload_n 2, 1) := dk_get daX16_work 88 (r := (149, .aload_n 2, 1)) rfl
theorem dX16_work_150 : decode cX16_work 150 = .ok (.iload 4, 2) := dk_get daX16_work 89 (r := (150, .iload 4, 2)) rfl
theorem dX16_work_152 : decode cX16_work 152 = .ok (.bipush 32, 2) := dk_get daX16_work 90 (r := (152, .bipush 32, 2)) rfl
theorem dX16_work_154 : decode cX16_work 154 = .ok (.idiv, 1) := dk_get daX16_work 91 (r := (154, .idiv, 1)) rfl
theorem dX16_work_155 : decode cX16_work 155 = .ok (.dup2, 1) := dk_get daX16_work 92 (r := (155, .dup2, 1)) rfl
theorem dX16_work_156 : decode cX16_work 156 = .ok (.iaload, 1) := dk_get daX16_work 93 (r := (156, .iaload, 1)) rfl
theorem dX16_work_157 : decode cX16_work 157 = .ok (.iconst 1, 1) := dk_get daX16_work 94 (r := (157, .iconst 1, 1)) rfl
theorem dX16_work_158 : decode cX16_work 158 = .ok (.iload 4, 2) := dk_get daX16_work 95 (r := (158, .iload 4, 2)) rfl
theorem dX16_work_160 : decode cX16_work 160 = .ok (.bipush 32, 2) := dk_get daX16_work 96 (r := (160, .bipush 32, 2)) rfl
theorem dX16_work_162 : decode cX16_work 162 = .ok (.irem, 1) := dk_get daX16_work 97 (r := (162, .irem, 1)) rfl
theorem dX16_work_163 : decode cX16_work 163 = .ok (.ishl, 1) := dk_get daX16_work 98 (r := (163, .ishl, 1)) rfl
theorem dX16_work_164 : decode cX16_work 164 = .ok (.ior, 1) := dk_get daX16_work 99 (r := (164, .ior, 1)) rfl
theorem dX16_work_165 : decode cX16_work 165 = .ok (.iastore, 1) := dk_get daX16_work 100 (r := (165, .iastore, 1)) rfl
theorem dX16_work_166 : decode cX16_work 166 = .ok (.iinc 4 (-1), 3) := dk_get daX16_work 101 (r := (166, .iinc 4 (-1), 3)) rfl
theorem dX16_work_169 : decode cX16_work 169 = .ok (.goto (-109), 3) := dk_get daX16_work 102 (r := (169, .goto (-109), 3)) rfl
theorem dX16_work_172 : decode cX16_work 172 = .ok (.aload_n 2, 1) := dk_get daX16_work 103 (r := (172, .aload_n 2, 1)) rfl
theorem dX16_work_173 : decode cX16_work 173 = .ok (.aload_n 0, 1) := dk_get daX16_work 104 (r := (173, .aload_n 0, 1)) rfl
theorem dX16_work_174 : decode cX16_work 174 = .ok (.getfield 338, 3) := dk_get daX16_work 105 (r := (174, .getfield 338, 3)) rfl
theorem dX16_work_177 : decode cX16_work 177 = .ok (.aload_n 2, 1) := dk_get daX16_work 106 (r := (177, .aload_n 2, 1)) rfl
theorem dX16_work_178 : decode cX16_work 178 = .ok (.invokestatic 345, 3) := dk_get daX16_work 107 (r := (178, .invokestatic 345, 3)) rfl
theorem dX16_work_181 : decode cX16_work 181 = .ok (.pop2, 1) := dk_get daX16_work 108 (r := (181, .pop2, 1)) rfl
theorem dX16_work_182 : decode cX16_work 182 = .ok (.return_, 1) := dk_get daX16_work 109 (r := (182, .return_, 1)) rfl
abbrev mX16_mark : ks_M := (RX16, cX16_mark, 3, (some .int), "mark")
def drX16_mark : List (Nat × Instr × Nat) := [(0, .iload_n 0, 1), (1, .bipush 12, 2), (3, .imul, 1), (4, .iload_n 1, 1), (5, .iadd, 1), (6, .sipush 256, 3), (9, .imul, 1), (10, .iload_n 2, 1), (11, .iadd, 1), (12, .ireturn, 1)]
set_option maxRecDepth 100000 in
theorem daX16_mark : dk_all cX16_mark drX16_mark = true := by decide +kernel
theorem dX16_mark_0 : decode cX16_mark 0 = .ok (.iload_n 0, 1) := dk_get daX16_mark 0 (r := (0, .iload_n 0, 1)) rfl
theorem dX16_mark_1 : decode cX16_mark 1 = .ok (.bipush 12, 2) := dk_get daX16_mark 1 (r := (1, .bipush 12, 2)) rfl
theorem dX16_mark_3 : decode cX16_mark 3 = .ok (.imul, 1) := dk_get daX16_mark 2 (r := (3, .imul, 1)) rfl
theorem dX16_mark_4 : decode cX16_mark 4 = .ok (.iload_n 1, 1) := dk_get daX16_mark 3 (r := (4, .iload_n 1, 1)) rfl
theorem dX16_mark_5 : decode cX16_mark 5 = .ok (.iadd, 1) := dk_get daX16_mark 4 (r := (5, .iadd, 1)) rfl
theorem dX16_mark_6 : decode cX16_mark 6 = .ok (.sipush 256, 3) := dk_get daX16_mark 5 (r := (6, .sipush 256, 3)) rfl
theorem dX16_mark_9 : decode cX16_mark 9 = .ok (.imul, 1) := dk_get daX16_mark 6 (r := (9, .imul, 1)) rfl
theorem dX16_mark_10 : decode cX16_mark 10 = .ok (.iload_n 2, 1) := dk_get daX16_mark 7 (r := (10, .iload_n 2, 1)) rfl
theorem dX16_mark_11 : decode cX16_mark 11 = .ok (.iadd, 1) := dk_get daX16_mark 8 (r := (11, .iadd, 1)) rfl
theorem dX16_mark_12 : decode cX16_mark 12 = .ok (.ireturn, 1) := dk_get daX16_mark 9 (r := (12, .ireturn, 1)) rfl
abbrev mX16_bitsOf : ks_M := (RX16, cX16_bitsOf, 2, (some .long), "bitsOf")
def drX16_bitsOf : List (Nat × Instr × Nat) := [(0, .aload_n 0, 1), (1, .aload_n 0, 1), (2, .getfield 347, 3), (5, .iload_n 1, 1), (6, .aaload, 1), (7, .getfield 351, 3), (10, .bipush 72, 2), (12, .iconst 4, 1), (13, .invokevirtual 267, 3), (16, .lreturn, 1)]
set_option maxRecDepth 100000 in
theorem daX16_bitsOf : dk_all cX16_bitsOf drX16_bitsOf = true := by decide +kernel
theorem dX16_bitsOf_0 : decode cX16_bitsOf 0 = .ok (.aload_n 0, 1) := dk_get daX16_bitsOf 0 (r := (0, .aload_n 0, 1)) rfl
theorem dX16_bitsOf_1 : decode cX16_bitsOf 1 = .ok (.aload_n 0, 1) := dk_get daX16_bitsOf 1 (r := (1, .aload_n 0, 1)) rfl
theorem dX16_bitsOf_2 : decode cX16_bitsOf 2 = .ok (.getfield 347, 3) := dk_get daX16_bitsOf 2 (r := (2, .getfield 347, 3)) rfl
theorem dX16_bitsOf_5 : decode cX16_bitsOf 5 = .ok (.iload_n 1, 1) := dk_get daX16_bitsOf 3 (r := (5, .iload_n 1, 1)) rfl
theorem dX16_bitsOf_6 : decode cX16_bitsOf 6 = .ok (.aaload, 1) := dk_get daX16_bitsOf 4 (r := (6, .aaload, 1)) rfl
theorem dX16_bitsOf_7 : decode cX16_bitsOf 7 = .ok (.getfield 351, 3) := dk_get daX16_bitsOf 5 (r := (7, .getfield 351, 3)) rfl
theorem dX16_bitsOf_10 : decode cX16_bitsOf 10 = .ok (.bipush 72, 2) := dk_get daX16_bitsOf 6 (r := (10, .bipush 72, 2)) rfl
theorem dX16_bitsOf_12 : decode cX16_bitsOf 12 = .ok (.iconst 4, 1) := dk_get daX16_bitsOf 7 (r := (12, .iconst 4, 1)) rfl
theorem dX16_bitsOf_13 : decode cX16_bitsOf 13 = .ok (.invokevirtual 267, 3) := dk_get daX16_bitsOf 8 (r := (13, .invokevirtual 267, 3)) rfl
theorem dX16_bitsOf_16 : decode cX16_bitsOf 16 = .ok (.lreturn, 1) := dk_get daX16_bitsOf 9 (r := (16, .lreturn, 1)) rfl
abbrev mX16_timeOf : ks_M := (RX16, cX16_timeOf, 2, (some .long), "timeOf")
def drX16_timeOf : List (Nat × Instr × Nat) := [(0, .aload_n 0, 1), (1, .aload_n 0, 1), (2, .getfield 347, 3), (5, .iload_n 1, 1), (6, .aaload, 1), (7, .getfield 351, 3), (10, .bipush 68, 2), (12, .iconst 4, 1), (13, .invokevirtual 267, 3), (16, .lreturn, 1)]
set_option maxRecDepth 100000 in
theorem daX16_timeOf : dk_all cX16_timeOf drX16_timeOf = true := by decide +kernel
theorem dX16_timeOf_0 : decode cX16_timeOf 0 = .ok (.aload_n 0, 1) := dk_get daX16_timeOf 0 (r := (0, .aload_n 0, 1)) rfl
theorem dX16_timeOf_1 : decode cX16_timeOf 1 = .ok (.aload_n 0, 1) := dk_get daX16_timeOf 1 (r := (1, .aload_n 0, 1)) rfl
theorem dX16_timeOf_2 : decode cX16_timeOf 2 = .ok (.getfield 347, 3) := dk_get daX16_timeOf 2 (r := (2, .getfield 347, 3)) rfl
theorem dX16_timeOf_5 : decode cX16_timeOf 5 = .ok (.iload_n 1, 1) := dk_get daX16_timeOf 3 (r := (5, .iload_n 1, 1)) rfl
theorem dX16_timeOf_6 : decode cX16_timeOf 6 = .ok (.aaload, 1) := dk_get daX16_timeOf 4 (r := (6, .aaload, 1)) rfl
theorem dX16_timeOf_7 : decode cX16_timeOf 7 = .ok (.getfield 351, 3) := dk_get daX16_timeOf 5 (r := (7, .getfield 351, 3)) rfl
theorem dX16_timeOf_10 : decode cX16_timeOf 10 = .ok (.bipush 68, 2) := dk_get daX16_timeOf 6 (r := (10, .bipush 68, 2)) rfl
theorem dX16_timeOf_12 : decode cX16_timeOf 12 = .ok (.iconst 4, 1) := dk_get daX16_timeOf 7 (r := (12, .iconst 4, 1)) rfl
theorem dX16_timeOf_13 : decode cX16_timeOf 13 = .ok (.invokevirtual 267, 3) := dk_get daX16_timeOf 8 (r := (13, .invokevirtual 267, 3)) rfl
theorem dX16_timeOf_16 : decode cX16_timeOf 16 = .ok (.lreturn, 1) := dk_get daX16_timeOf 9 (r := (16, .lreturn, 1)) rfl
abbrev mX16_up : ks_M := (RX16, cX16_up, 5, (some .int), "up")
def drX16_up : List (Nat × Instr × Nat) := [(0, .iload_n 1, 1), (1, .istore_n 3, 1), (2, .iconst 0, 1), (3, .istore 4, 2), (5, .iload 4, 2), (7, .iload_n 2, 1), (8, .if_icmp .ge 19, 3), (11, .aload_n 0, 1), (12, .getfield 347, 3), (15, .iload_n 3, 1), (16, .aaload, 1), (17, .getfield 354, 3), (20, .istore_n 3, 1), (21, .iinc 4 1, 3), (24, .goto (-19), 3), (27, .iload_n 3, 1), (28, .ireturn, 1)]
set_option maxRecDepth 100000 in
theorem daX16_up : dk_all cX16_up drX16_up = true := by decide +kernel
theorem dX16_up_0 : decode cX16_up 0 = .ok (.iload_n 1, 1) := dk_get daX16_up 0 (r := (0, .iload_n 1, 1)) rfl
theorem dX16_up_1 : decode cX16_up 1 = .ok (.istore_n 3, 1) := dk_get daX16_up 1 (r := (1, .istore_n 3, 1)) rfl
theorem dX16_up_2 : decode cX16_up 2 = .ok (.iconst 0, 1) := dk_get daX16_up 2 (r := (2, .iconst 0, 1)) rfl
theorem dX16_up_3 : decode cX16_up 3 = .ok (.istore 4, 2) := dk_get daX16_up 3 (r := (3, .istore 4, 2)) rfl
theorem dX16_up_5 : decode cX16_up 5 = .ok (.iload 4, 2) := dk_get daX16_up 4 (r := (5, .iload 4, 2)) rfl
theorem dX16_up_7 : decode cX16_up 7 = .ok (.iload_n 2, 1) := dk_get daX16_up 5 (r := (7, .iload_n 2, 1)) rfl
theorem dX16_up_8 : decode cX16_up 8 = .ok (.if_icmp .ge 19, 3) := dk_get daX16_up 6 (r := (8, .if_icmp .ge 19, 3)) rfl
theorem dX16_up_11 : decode cX16_up 11 = .ok (.aload_n 0, 1) := dk_get daX16_up 7 (r := (11, .aload_n 0, 1)) rfl
theorem dX16_up_12 : decode cX16_up 12 = .ok (.getfield 347, 3) := dk_get daX16_up 8 (r := (12, .getfield 347, 3)) rfl
theorem dX16_up_15 : decode cX16_up 15 = .ok (.iload_n 3, 1) := dk_get daX16_up 9 (r := (15, .iload_n 3, 1)) rfl
theorem dX16_up_16 : decode cX16_up 16 = .ok (.aaload, 1) := dk_get daX16_up 10 (r := (16, .aaload, 1)) rfl
theorem dX16_up_17 : decode cX16_up 17 = .ok (.getfield 354, 3) := dk_get daX16_up 11 (r := (17, .getfield 354, 3)) rfl
theorem dX16_up_20 : decode cX16_up 20 = .ok (.istore_n 3, 1) := dk_get daX16_up 12 (r := (20, .istore_n 3, 1)) rfl
theorem dX16_up_21 : decode cX16_up 21 = .ok (.iinc 4 1, 3) := dk_get daX16_up 13 (r := (21, .iinc 4 1, 3)) rfl
theorem dX16_up_24 : decode cX16_up 24 = .ok (.goto (-19), 3) := dk_get daX16_up 14 (r := (24, .goto (-19), 3)) rfl
theorem dX16_up_27 : decode cX16_up 27 = .ok (.iload_n 3, 1) := dk_get daX16_up 15 (r := (27, .iload_n 3, 1)) rfl
theorem dX16_up_28 : decode cX16_up 28 = .ok (.ireturn, 1) := dk_get daX16_up 16 (r := (28, .ireturn, 1)) rfl
abbrev mX16_middle : ks_M := (RX16, cX16_middle, 7, (some .long), "middle")
def drX16_middle : List (Nat × Instr × Nat) := [(0, .iconst 0, 1), (1, .istore_n 2, 1), (2, .iload_n 1, 1), (3, .istore_n 3, 1), (4, .iload_n 3, 1), (5, .ifCond .lt 86, 3), (8, .iload_n 2, 1), (9, .bipush 11, 2), (11, .if_icmp .ge 80, 3), (14, .aload_n 0, 1), (15, .iload_n 3, 1), (16, .invokevirtual 357, 3), (19, .lstore 4, 2), (21, .iload_n 2, 1), (22, .istore 6, 2), (24, .iload 6, 2), (26, .ifCond .le 40, 3), (29, .aload_n 0, 1), (30, .getfield 361, 3), (33, .iload 6, 2), (35, .iconst 1, 1), (36, .isub, 1), (37, .laload, 1), (38, .lload 4, 2), (40, .lcmp, 1), (41, .ifCond .le 25, 3), (44, .aload_n 0, 1), (45, .getfield 361, 3), (48, .iload 6, 2), (50, .aload_n 0, 1), (51, .getfield 361, 3), (54, .iload 6, 2), (56, .iconst 1, 1), (57, .isub, 1), (58, .laload, 1), (59, .lastore, 1), (60, .iinc 6 (-1), 3), (63, .goto (-39), 3), (66, .aload_n 0, 1), (67, .getfield 361, 3), (70, .iload 6, 2), (72, .lload 4, 2), (74, .lastore, 1), (75, .iinc 2 1, 3), (78, .aload_n 0, 1), (79, .getfield 347, 3), (82, .iload_n 3, 1), (83, .aaload, 1), (84, .getfield 354, 3), (87, .istore_n 3, 1), (88, .goto (-84), 3), (91, .aload_n 0, 1), (92, .getfield 361, 3), (95, .iload_n 2, 1), (96, .iconst 2, 1), (97, .idiv, 1), (98, .laload, 1), (99, .lreturn, 1)]
set_option maxRecDepth 100000 in
theorem daX16_middle : dk_all cX16_middle drX16_middle = true := by decide +kernel
theorem dX16_middle_0 : decode cX16_middle 0 = .ok (.iconst 0, 1) := dk_get daX16_middle 0 (r := (0, .iconst 0, 1)) rfl
theorem dX16_middle_1 : decode cX16_middle 1 = .ok (.istore_n 2, 1) := dk_get daX16_middle 1 (r := (1, .istore_n 2, 1)) rfl
theorem dX16_middle_2 : decode cX16_middle 2 = .ok (.iload_n 1, 1) := dk_get daX16_middle 2 (r := (2, .iload_n 1, 1)) rfl
theorem dX16_middle_3 : decode cX16_middle 3 = .ok (.istore_n 3, 1) := dk_get daX16_middle 3 (r := (3, .istore_n 3, 1)) rfl
theorem dX16_middle_4 : decode cX16_middle 4 = .ok (.iload_n 3, 1) := dk_get daX16_middle 4 (r := (4, .iload_n 3, 1)) rfl
theorem dX16_middle_5 : decode cX16_middle 5 = .ok (.ifCond .lt 86, 3) := dk_get daX16_middle 5 (r := (5, .ifCond .lt 86, 3)) rfl
theorem dX16_middle_8 : decode cX16_middle 8 = .ok (.iload_n 2, 1) := dk_get daX16_middle 6 (r := (8, .iload_n 2, 1)) rfl
theorem dX16_middle_9 : decode cX16_middle 9 = .ok (.bipush 11, 2) := dk_get daX16_middle 7 (r := (9, .bipush 11, 2)) rfl
theorem dX16_middle_11 : decode cX16_middle 11 = .ok (.if_icmp .ge 80, 3) := dk_get daX16_middle 8 (r := (11, .if_icmp .ge 80, 3)) rfl
theorem dX16_middle_14 : decode cX16_middle 14 = .ok (.aload_n 0, 1) := dk_get daX16_middle 9 (r := (14, .aload_n 0, 1)) rfl
theorem dX16_middle_15 : decode cX16_middle 15 = .ok (.iload_n 3, 1) := dk_get daX16_middle 10 (r := (15, .iload_n 3, 1)) rfl
theorem dX16_middle_16 : decode cX16_middle 16 = .ok (.invokevirtual 357, 3) := dk_get daX16_middle 11 (r := (16, .invokevirtual 357, 3)) rfl
theorem dX16_middle_19 : decode cX16_middle 19 = .ok (.lstore 4, 2) := dk_get daX16_middle 12 (r := (19, .lstore 4, 2)) rfl
theorem dX16_middle_21 : decode cX16_middle 21 = .ok (.iload_n 2, 1) := dk_get daX16_middle 13 (r := (21, .iload_n 2, 1)) rfl
theorem dX16_middle_22 : decode cX16_middle 22 = .ok (.istore 6, 2) := dk_get daX16_middle 14 (r := (22, .istore 6, 2)) rfl
theorem dX16_middle_24 : decode cX16_middle 24 = .ok (.iload 6, 2) := dk_get daX16_middle 15 (r := (24, .iload 6, 2)) rfl
theorem dX16_middle_26 : decode cX16_middle 26 = .ok (.ifCond .le 40, 3) := dk_get daX16_middle 16 (r := (26, .ifCond .le 40, 3)) rfl
theorem dX16_middle_29 : decode cX16_middle 29 = .ok (.aload_n 0, 1) := dk_get daX16_middle 17 (r := (29, .aload_n 0, 1)) rfl
theorem dX16_middle_30 : decode cX16_middle 30 = .ok (.getfield 361, 3) := dk_get daX16_middle 18 (r := (30, .getfield 361, 3)) rfl
theorem dX16_middle_33 : decode cX16_middle 33 = .ok (.iload 6, 2) := dk_get daX16_middle 19 (r := (33, .iload 6, 2)) rfl
theorem dX16_middle_35 : decode cX16_middle 35 = .ok (.iconst 1, 1) := dk_get daX16_middle 20 (r := (35, .iconst 1, 1)) rfl
theorem dX16_middle_36 : decode cX16_middle 36 = .ok (.isub, 1) := dk_get daX16_middle 21 (r := (36, .isub, 1)) rfl
theorem dX16_middle_37 : decode cX16_middle 37 = .ok (.laload, 1) := dk_get daX16_middle 22 (r := (37, .laload, 1)) rfl
theorem dX16_middle_38 : decode cX16_middle 38 = .ok (.lload 4, 2) := dk_get daX16_middle 23 (r := (38, .lload 4, 2)) rfl
theorem dX16_middle_40 : decode cX16_middle 40 = .ok (.lcmp, 1) := dk_get daX16_middle 24 (r := (40, .lcmp, 1)) rfl
theorem dX16_middle_41 : decode cX16_middle 41 = .ok (.ifCond .le 25, 3) := dk_get daX16_middle 25 (r := (41, .ifCond .le 25, 3)) rfl
theorem dX16_middle_44 : decode cX16_middle 44 = .ok (.aload_n 0, 1) := dk_get daX16_middle 26 (r := (44, .aload_n 0, 1)) rfl
theorem dX16_middle_45 : decode cX16_middle 45 = .ok (.getfield 361, 3) := dk_get daX16_middle 27 (r := (45, .getfield 361, 3)) rfl
theorem dX16_middle_48 : decode cX16_middle 48 = .ok (.iload 6, 2) := dk_get daX16_middle 28 (r := (48, .iload 6, 2)) rfl
theorem dX16_middle_50 : decode cX16_middle 50 = .ok (.aload_n 0, 1) := dk_get daX16_middle 29 (r := (50, .aload_n 0, 1)) rfl
theorem dX16_middle_51 : decode cX16_middle 51 = .ok (.getfield 361, 3) := dk_get daX16_middle 30 (r := (51, .getfield 361, 3)) rfl
theorem dX16_middle_54 : decode cX16_middle 54 = .ok (.iload 6, 2) := dk_get daX16_middle 31 (r := (54, .iload 6, 2)) rfl
theorem dX16_middle_56 : decode cX16_middle 56 = .ok (.iconst 1, 1) := dk_get daX16_middle 32 (r := (56, .iconst 1, 1)) rfl
theorem dX16_middle_57 : decode cX16_middle 57 = .ok (.isub, 1) := dk_get daX16_middle 33 (r := (57, .isub, 1)) rfl
theorem dX16_middle_58 : decode cX16_middle 58 = .ok (.laload, 1) := dk_get daX16_middle 34 (r := (58, .laload, 1)) rfl
theorem dX16_middle_59 : decode cX16_middle 59 = .ok (.lastore, 1) := dk_get daX16_middle 35 (r := (59, .lastore, 1)) rfl
theorem dX16_middle_60 : decode cX16_middle 60 = .ok (.iinc 6 (-1), 3) := dk_get daX16_middle 36 (r := (60, .iinc 6 (-1), 3)) rfl
theorem dX16_middle_63 : decode cX16_middle 63 = .ok (.goto (-39), 3) := dk_get daX16_middle 37 (r := (63, .goto (-39), 3)) rfl
theorem dX16_middle_66 : decode cX16_middle 66 = .ok (.aload_n 0, 1) := dk_get daX16_middle 38 (r := (66, .aload_n 0, 1)) rfl
theorem dX16_middle_67 : decode cX16_middle 67 = .ok (.getfield 361, 3) := dk_get daX16_middle 39 (r := (67, .getfield 361, 3)) rfl
theorem dX16_middle_70 : decode cX16_middle 70 = .ok (.iload 6, 2) := dk_get daX16_middle 40 (r := (70, .iload 6, 2)) rfl
theorem dX16_middle_72 : decode cX16_middle 72 = .ok (.lload 4, 2) := dk_get daX16_middle 41 (r := (72, .lload 4, 2)) rfl
theorem dX16_middle_74 : decode cX16_middle 74 = .ok (.lastore, 1) := dk_get daX16_middle 42 (r := (74, .lastore, 1)) rfl
theorem dX16_middle_75 : decode cX16_middle 75 = .ok (.iinc 2 1, 3) := dk_get daX16_middle 43 (r := (75, .iinc 2 1, 3)) rfl
theorem dX16_middle_78 : decode cX16_middle 78 = .ok (.aload_n 0, 1) := dk_get daX16_middle 44 (r := (78, .aload_n 0, 1)) rfl
theorem dX16_middle_79 : decode cX16_middle 79 = .ok (.getfield 347, 3) := dk_get daX16_middle 45 (r := (79, .getfield 347, 3)) rfl
theorem dX16_middle_82 : decode cX16_middle 82 = .ok (.iload_n 3, 1) := dk_get daX16_middle 46 (r := (82, .iload_n 3, 1)) rfl
theorem dX16_middle_83 : decode cX16_middle 83 = .ok (.aaload, 1) := dk_get daX16_middle 47 (r := (83, .aaload, 1)) rfl
theorem dX16_middle_84 : decode cX16_middle 84 = .ok (.getfield 354, 3) := dk_get daX16_middle 48 (r := (84, .getfield 354, 3)) rfl
theorem dX16_middle_87 : decode cX16_middle 87 = .ok (.istore_n 3, 1) := dk_get daX16_middle 49 (r := (87, .istore_n 3, 1)) rfl
theorem dX16_middle_88 : decode cX16_middle 88 = .ok (.goto (-84), 3) := dk_get daX16_middle 50 (r := (88, .goto (-84), 3)) rfl
theorem dX16_middle_91 : decode cX16_middle 91 = .ok (.aload_n 0, 1) := dk_get daX16_middle 51 (r := (91, .aload_n 0, 1)) rfl
theorem dX16_middle_92 : decode cX16_middle 92 = .ok (.getfield 361, 3) := dk_get daX16_middle 52 (r := (92, .getfield 361, 3)) rfl
theorem dX16_middle_95 : decode cX16_middle 95 = .ok (.iload_n 2, 1) := dk_get daX16_middle 53 (r := (95, .iload_n 2, 1)) rfl
theorem dX16_middle_96 : decode cX16_middle 96 = .ok (.iconst 2, 1) := dk_get daX16_middle 54 (r := (96, .iconst 2, 1)) rfl
theorem dX16_middle_97 : decode cX16_middle 97 = .ok (.idiv, 1) := dk_get daX16_middle 55 (r := (97, .idiv, 1)) rfl
theorem dX16_middle_98 : decode cX16_middle 98 = .ok (.laload, 1) := dk_get daX16_middle 56 (r := (98, .laload, 1)) rfl
theorem dX16_middle_99 : decode cX16_middle 99 = .ok (.lreturn, 1) := dk_get daX16_middle 57 (r := (99, .lreturn, 1)) rfl
abbrev mX16_due : ks_M := (RX16, cX16_due, 11, (some .int), "due")
def drX16_due : List (Nat × Instr × Nat) := [(0, .aload_n 0, 1), (1, .getfield 347, 3), (4, .iload_n 1, 1), (5, .aaload, 1), (6, .getfield 363, 3), (9, .iconst 1, 1), (10, .iadd, 1), (11, .istore_n 2, 1), (12, .aload_n 0, 1), (13, .iload_n 1, 1), (14, .invokevirtual 366, 3), (17, .l2i, 1), (18, .istore_n 3, 1), (19, .iload_n 2, 1), (20, .bipush 8, 2), (22, .irem, 1), (23, .ifCond .eq 5, 3), (26, .iload_n 3, 1), (27, .ireturn, 1), (28, .aload_n 0, 1), (29, .iload_n 1, 1), (30, .invokevirtual 357, 3), (33, .aload_n 0, 1), (34, .aload_n 0, 1), (35, .iload_n 1, 1), (36, .bipush 7, 2), (38, .invokevirtual 369, 3), (41, .invokevirtual 357, 3), (44, .lsub, 1), (45, .lstore 4, 2), (47, .lload 4, 2), (49, .ldc2_w 372, 3), (52, .lcmp, 1), (53, .ifCond .ge 9, 3), (56, .ldc2_w 372, 3), (59, .goto 20, 3), (62, .lload 4, 2), (64, .ldc2_w 374, 3), (67, .lcmp, 1), (68, .ifCond .le 9, 3), (71, .ldc2_w 374, 3), (74, .goto 5, 3), (77, .lload 4, 2), (79, .lstore 4, 2), (81, .iload_n 3, 1), (82, .aload_n 0, 1), (83, .getfield 342, 3), (86, .invokestatic 376, 3), (89, .pop, 1), (90, .lconst 0, 1), (91, .lstore 6, 2), (93, .iconst 0, 1), (94, .istore 8, 2), (96, .iload 8, 2), (98, .bipush 8, 2), (100, .if_icmp .ge 46, 3), (103, .lload 6, 2), (105, .aload_n 0, 1), (106, .getfield 342, 3), (109, .iload 8, 2), (111, .iaload, 1), (112, .i2l, 1), (113, .ldc2_w 380, 3), (116, .land, 1), (117, .lload 4, 2), (119, .lmul, 1), (120, .ladd, 1), (121, .lstore 6, 2), (123, .aload_n 0, 1), (124, .getfield 382, 3), (127, .iload 8, 2), (129, .lload 6, 2), (131, .l2i, 1), (132, .iastore, 1), (133, .lload 6, 2), (135, .bipush 32, 2), (137, .lushr, 1), (138, .lstore 6, 2), (140, .iinc 8 1, 3), (143, .goto (-47), 3), (146, .aload_n 0, 1), (147, .getfield 382, 3), (150, .bipush 8, 2), (152, .lload 6, 2), (154, .l2i, 1), (155, .iastore, 1), (156, .lconst 0, 1), (157, .lstore 8, 2), (159, .bipush 8, 2), (161, .istore 10, 2), (163, .iload 10, 2), (165, .ifCond .lt 51, 3), (168, .lload 8, 2), (170, .bipush 32, 2), (172, .lshl, 1), (173, .aload_n 0, 1), (174, .getfield 382, 3), (177, .iload 10, 2), (179, .iaload, 1), (180, .i2l, 1), (181, .ldc2_w 380, 3), (184, .land, 1), (185, .lor, 1), (186, .lstore 8, 2), (188, .aload_n 0, 1), (189, .getfield 382, 3), (192, .iload 10, 2), (194, .lload 8, 2), (196, .ldc2_w 385, 3), (199, .ldiv, 1), (200, .l2i, 1), (201, .iastore, 1), (202, .lload 8, 2), (204, .ldc2_w 385, 3), (207, .lrem, 1), (208, .lstore 8, 2), (210, .iinc 10 (-1), 3), (213, .goto (-50), 3), (216, .iconst 0, 1), (217, .istore 10, 2), (219, .iload 10, 2), (221, .bipush 8, 2), (223, .if_icmp .ge 23, 3), (226, .aload_n 0, 1), (227, .getfield 342, 3), (230, .iload 10, 2), (232, .aload_n 0, 1), (233, .getfield 382, 3), (236, .iload 10, 2), (238, .iaload, 1), (239, .iastore, 1), (240, .iinc 10 1, 3), (243, .goto (-24), 3), (246, .aload_n 0, 1), (247, .getfield 382, 3), (250, .bipush 8, 2), (252, .iaload, 1), (253, .ifCond .ne 17, 3), (256, .aload_n 0, 1), (257, .getfield 342, 3), (260, .aload_n 0, 1), (261, .getfield 387, 3), (264, .invokestatic 165, 3), (267, .ifCond .le 14, 3), (270, .aload_n 0, 1), (271, .getfield 387, 3), (274, .aload_n 0, 1), (275, .getfield 342, 3), (278, .invokestatic 182, 3), (281, .aload_n 0, 1), (282, .getfield 342, 3), (285, .invokestatic 390, 3), (288, .ireturn, 1)]
set_option maxRecDepth 100000 in
theorem daX16_due : dk_all cX16_due drX16_due = true := by decide +kernel
theorem dX16_due_0 : decode cX16_due 0 = .ok (.aload_n 0, 1) := dk_get daX16_due 0 (r := (0, .aload_n 0, 1)) rfl
theorem dX16_due_1 : decode cX16_due 1 = .ok (.getfield 347, 3) := dk_get daX16_due 1 (r := (1, .getfield 347, 3)) rfl
theorem dX16_due_4 : decode cX16_due 4 = .ok (.iload_n 1, 1) := dk_get daX16_due 2 (r := (4, .iload_n 1, 1)) rfl
theorem dX16_due_5 : decode cX16_due 5 = .ok (.aaload, 1) := dk_get daX16_due 3 (r := (5, .aaload, 1)) rfl
theorem dX16_due_6 : decode cX16_due 6 = .ok (.getfield 363, 3) := dk_get daX16_due 4 (r := (6, .getfield 363, 3)) rfl
theorem dX16_due_9 : decode cX16_due 9 = .ok (.iconst 1, 1) := dk_get daX16_due 5 (r := (9, .iconst 1, 1)) rfl
theorem dX16_due_10 : decode cX16_due 10 = .ok (.iadd, 1) := dk_get daX16_due 6 (r := (10, .iadd, 1)) rfl
theorem dX16_due_11 : decode cX16_due 11 = .ok (.istore_n 2, 1) := dk_get daX16_due 7 (r := (11, .istore_n 2, 1)) rfl
theorem dX16_due_12 : decode cX16_due 12 = .ok (.aload_n 0, 1) := dk_get daX16_due 8 (r := (12, .aload_n 0, 1)) rfl
theorem dX16_due_13 : decode cX16_due 13 = .ok (.iload_n 1, 1) := dk_get daX16_due 9 (r := (13, .iload_n 1, 1)) rfl
theorem dX16_due_14 : decode cX16_due 14 = .ok (.invokevirtual 366, 3) := dk_get daX16_due 10 (r := (14, .invokevirtual 366, 3)) rfl
theorem dX16_due_17 : decode cX16_due 17 = .ok (.l2i, 1) := dk_get daX16_due 11 (r := (17, .l2i, 1)) rfl
theorem dX16_due_18 : decode cX16_due 18 = .ok (.istore_n 3, 1) := dk_get daX16_due 12 (r := (18, .istore_n 3, 1)) rfl
theorem dX16_due_19 : decode cX16_due 19 = .ok (.iload_n 2, 1) := dk_get daX16_due 13 (r := (19, .iload_n 2, 1)) rfl
theorem dX16_due_20 : decode cX16_due 20 = .ok (.bipush 8, 2) := dk_get daX16_due 14 (r := (20, .bipush 8, 2)) rfl
theorem dX16_due_22 : decode cX16_due 22 = .ok (.irem, 1) := dk_get daX16_due 15 (r := (22, .irem, 1)) rfl
theorem dX16_due_23 : decode cX16_due 23 = .ok (.ifCond .eq 5, 3) := dk_get daX16_due 16 (r := (23, .ifCond .eq 5, 3)) rfl
theorem dX16_due_26 : decode cX16_due 26 = .ok (.iload_n 3, 1) := dk_get daX16_due 17 (r := (26, .iload_n 3, 1)) rfl
theorem dX16_due_27 : decode cX16_due 27 = .ok (.ireturn, 1) := dk_get daX16_due 18 (r := (27, .ireturn, 1)) rfl
theorem dX16_due_28 : decode cX16_due 28 = .ok (.aload_n 0, 1) := dk_get daX16_due 19 (r := (28, .aload_n 0, 1)) rfl
theorem dX16_due_29 : decode cX16_due 29 = .ok (.iload_n 1, 1) := dk_get daX16_due 20 (r := (29, .iload_n 1, 1)) rfl
theorem dX16_due_30 : decode cX16_due 30 = .ok (.invokevirtual 357, 3) := dk_get daX16_due 21 (r := (30, .invokevirtual 357, 3)) rfl
theorem dX16_due_33 : decode cX16_due 33 = .ok (.aload_n 0, 1) := dk_get daX16_due 22 (r := (33, .aload_n 0, 1)) rfl
theorem dX16_due_34 : decode cX16_due 34 = .ok (.aload_n 0, 1) := dk_get daX16_due 23 (r := (34, .aload_n 0, 1)) rfl
theorem dX16_due_35 : decode cX16_due 35 = .ok (.iload_n 1, 1) := dk_get daX16_due 24 (r := (35, .iload_n 1, 1)) rfl
theorem dX16_due_36 : decode cX16_due 36 = .ok (.bipush 7, 2) := dk_get daX16_due 25 (r := (36, .bipush 7, 2)) rfl
theorem dX16_due_38 : decode cX16_due 38 = .ok (.invokevirtual 369, 3) := dk_get daX16_due 26 (r := (38, .invokevirtual 369, 3)) rfl
theorem dX16_due_41 : decode cX16_due 41 = .ok (.invokevirtual 357, 3) := dk_get daX16_due 27 (r := (41, .invokevirtual 357, 3)) rfl
theorem dX16_due_44 : decode cX16_due 44 = .ok (.lsub, 1) := dk_get daX16_due 28 (r := (44, .lsub, 1)) rfl
theorem dX16_due_45 : decode cX16_due 45 = .ok (.lstore 4, 2) := dk_get daX16_due 29 (r := (45, .lstore 4, 2)) rfl
theorem dX16_due_47 : decode cX16_due 47 = .ok (.lload 4, 2) := dk_get daX16_due 30 (r := (47, .lload 4, 2)) rfl
theorem dX16_due_49 : decode cX16_due 49 = .ok (.ldc2_w 372, 3) := dk_get daX16_due 31 (r := (49, .ldc2_w 372, 3)) rfl
theorem dX16_due_52 : decode cX16_due 52 = .ok (.lcmp, 1) := dk_get daX16_due 32 (r := (52, .lcmp, 1)) rfl
theorem dX16_due_53 : decode cX16_due 53 = .ok (.ifCond .ge 9, 3) := dk_get daX16_due 33 (r := (53, .ifCond .ge 9, 3)) rfl
theorem dX16_due_56 : decode cX16_due 56 = .ok (.ldc2_w 372, 3) := dk_get daX16_due 34 (r := (56, .ldc2_w 372, 3)) rfl
theorem dX16_due_59 : decode cX16_due 59 = .ok (.goto 20, 3) := dk_get daX16_due 35 (r := (59, .goto 20, 3)) rfl
theorem dX16_due_62 : decode cX16_due 62 = .ok (.lload 4, 2) := dk_get daX16_due 36 (r := (62, .lload 4, 2)) rfl
theorem dX16_due_64 : decode cX16_due 64 = .ok (.ldc2_w 374, 3) := dk_get daX16_due 37 (r := (64, .ldc2_w 374, 3)) rfl
theorem dX16_due_67 : decode cX16_due 67 = .ok (.lcmp, 1) := dk_get daX16_due 38 (r := (67, .lcmp, 1)) rfl
theorem dX16_due_68 : decode cX16_due 68 = .ok (.ifCond .le 9, 3) := dk_get daX16_due 39 (r := (68, .ifCond .le 9, 3)) rfl
theorem dX16_due_71 : decode cX16_due 71 = .ok (.ldc2_w 374, 3) := dk_get daX16_due 40 (r := (71, .ldc2_w 374, 3)) rfl
theorem dX16_due_74 : decode cX16_due 74 = .ok (.goto 5, 3) := dk_get daX16_due 41 (r := (74, .goto 5, 3)) rfl
theorem dX16_due_77 : decode cX16_due 77 = .ok (.lload 4, 2) := dk_get daX16_due 42 (r := (77, .lload 4, 2)) rfl
theorem dX16_due_79 : decode cX16_due 79 = .ok (.lstore 4, 2) := dk_get daX16_due 43 (r := (79, .lstore 4, 2)) rfl
theorem dX16_due_81 : decode cX16_due 81 = .ok (.iload_n 3, 1) := dk_get daX16_due 44 (r := (81, .iload_n 3, 1)) rfl
theorem dX16_due_82 : decode cX16_due 82 = .ok (.aload_n 0, 1) := dk_get daX16_due 45 (r := (82, .aload_n 0, 1)) rfl
theorem dX16_due_83 : decode cX16_due 83 = .ok (.getfield 342, 3) := dk_get daX16_due 46 (r := (83, .getfield 342, 3)) rfl
theorem dX16_due_86 : decode cX16_due 86 = .ok (.invokestatic 376, 3) := dk_get daX16_due 47 (r := (86, .invokestatic 376, 3)) rfl
theorem dX16_due_89 : decode cX16_due 89 = .ok (.pop, 1) := dk_get daX16_due 48 (r := (89, .pop, 1)) rfl
theorem dX16_due_90 : decode cX16_due 90 = .ok (.lconst 0, 1) := dk_get daX16_due 49 (r := (90, .lconst 0, 1)) rfl
theorem dX16_due_91 : decode cX16_due 91 = .ok (.lstore 6, 2) := dk_get daX16_due 50 (r := (91, .lstore 6, 2)) rfl
theorem dX16_due_93 : decode cX16_due 93 = .ok (.iconst 0, 1) := dk_get daX16_due 51 (r := (93, .iconst 0, 1)) rfl
theorem dX16_due_94 : decode cX16_due 94 = .ok (.istore 8, 2) := dk_get daX16_due 52 (r := (94, .istore 8, 2)) rfl
theorem dX16_due_96 : decode cX16_due 96 = .ok (.iload 8, 2) := dk_get daX16_due 53 (r := (96, .iload 8, 2)) rfl
theorem dX16_due_98 : decode cX16_due 98 = .ok (.bipush 8, 2) := dk_get daX16_due 54 (r := (98, .bipush 8, 2)) rfl
theorem dX16_due_100 : decode cX16_due 100 = .ok (.if_icmp .ge 46, 3) := dk_get daX16_due 55 (r := (100, .if_icmp .ge 46, 3)) rfl
theorem dX16_due_103 : decode cX16_due 103 = .ok (.lload 6, 2) := dk_get daX16_due 56 (r := (103, .lload 6, 2)) rfl
theorem dX16_due_105 : decode cX16_due 105 = .ok (.aload_n 0, 1) := dk_get daX16_due 57 (r := (105, .aload_n 0, 1)) rfl
theorem dX16_due_106 : decode cX16_due 106 = .ok (.getfield 342, 3) := dk_get daX16_due 58 (r := (106, .getfield 342, 3)) rfl
theorem dX16_due_109 : decode cX16_due 109 = .ok (.iload 8, 2) := dk_get daX16_due 59 (r := (109, .iload 8, 2)) rfl
theorem dX16_due_111 : decode cX16_due 111 = .ok (.iaload, 1) := dk_get daX16_due 60 (r := (111, .iaload, 1)) rfl
theorem dX16_due_112 : decode cX16_due 112 = .ok (.i2l, 1) := dk_get daX16_due 61 (r := (112, .i2l, 1)) rfl
theorem dX16_due_113 : decode cX16_due 113 = .ok (.ldc2_w 380, 3) := dk_get daX16_due 62 (r := (113, .ldc2_w 380, 3)) rfl
theorem dX16_due_116 : decode cX16_due 116 = .ok (.land, 1) := dk_get daX16_due 63 (r := (116, .land, 1)) rfl
theorem dX16_due_117 : decode cX16_due 117 = .ok (.lload 4, 2) := dk_get daX16_due 64 (r := (117, .lload 4, 2)) rfl
theorem dX16_due_119 : decode cX16_due 119 = .ok (.lmul, 1) := dk_get daX16_due 65 (r := (119, .lmul, 1)) rfl
theorem dX16_due_120 : decode cX16_due 120 = .ok (.ladd, 1) := dk_get daX16_due 66 (r := (120, .ladd, 1)) rfl
theorem dX16_due_121 : decode cX16_due 121 = .ok (.lstore 6, 2) := dk_get daX16_due 67 (r := (121, .lstore 6, 2)) rfl
theorem dX16_due_123 : decode cX16_due 123 = .ok (.aload_n 0, 1) := dk_get daX16_due 68 (r := (123, .aload_n 0, 1)) rfl
theorem dX16_due_124 : decode cX16_due 124 = .ok (.getfield 382, 3) := dk_get daX16_due 69 (r := (124, .getfield 382, 3)) rfl
theorem dX16_due_127 : decode cX16_due 127 = .ok (.iload 8, 2) := dk_get daX16_due 70 (r := (127, .iload 8, 2)) rfl
theorem dX16_due_129 : decode cX16_due 129 = .ok (.lload 6, 2) := dk_get daX16_due 71 (r := (129, .lload 6, 2)) rfl
theorem dX16_due_131 : decode cX16_due 131 = .ok (.l2i, 1) := dk_get daX16_due 72 (r := (131, .l2i, 1)) rfl
theorem dX16_due_132 : decode cX16_due 132 = .ok (.iastore, 1) := dk_get daX16_due 73 (r := (132, .iastore, 1)) rfl
theorem dX16_due_133 : decode cX16_due 133 = .ok (.lload 6, 2) := dk_get daX16_due 74 (r := (133, .lload 6, 2)) rfl
theorem dX16_due_135 : decode cX16_due 135 = .ok (.bipush 32, 2) := dk_get daX16_due 75 (r := (135, .bipush 32, 2)) rfl
theorem dX16_due_137 : decode cX16_due 137 = .ok (.lushr, 1) := dk_get daX16_due 76 (r := (137, .lushr, 1)) rfl
theorem dX16_due_138 : decode cX16_due 138 = .ok (.lstore 6, 2) := dk_get daX16_due 77 (r := (138, .lstore 6, 2)) rfl
theorem dX16_due_140 : decode cX16_due 140 = .ok (.iinc 8 1, 3) := dk_get daX16_due 78 (r := (140, .iinc 8 1, 3)) rfl
theorem dX16_due_143 : decode cX16_due 143 = .ok (.goto (-47), 3) := dk_get daX16_due 79 (r := (143, .goto (-47), 3)) rfl
theorem dX16_due_146 : decode cX16_due 146 = .ok (.aload_n 0, 1) := dk_get daX16_due 80 (r := (146, .aload_n 0, 1)) rfl
theorem dX16_due_147 : decode cX16_due 147 = .ok (.getfield 382, 3) := dk_get daX16_due 81 (r := (147, .getfield 382, 3)) rfl
theorem dX16_due_150 : decode cX16_due 150 = .ok (.bipush 8, 2) := dk_get daX16_due 82 (r := (150, .bipush 8, 2)) rfl
theorem dX16_due_152 : decode cX16_due 152 = .ok (.lload 6, 2) := dk_get daX16_due 83 (r := (152, .lload 6, 2)) rfl
theorem dX16_due_154 : decode cX16_due 154 = .ok (.l2i, 1) := dk_get daX16_due 84 (r := (154, .l2i, 1)) rfl
theorem dX16_due_155 : decode cX16_due 155 = .ok (.iastore, 1) := dk_get daX16_due 85 (r := (155, .iastore, 1)) rfl
theorem dX16_due_156 : decode cX16_due 156 = .ok (.lconst 0, 1) := dk_get daX16_due 86 (r := (156, .lconst 0, 1)) rfl
theorem dX16_due_157 : decode cX16_due 157 = .ok (.lstore 8, 2) := dk_get daX16_due 87 (r := (157, .lstore 8, 2)) rfl
theorem dX16_due_159 : decode cX16_due 159 = .ok (.bipush 8, 2) := dk_get daX16_due 88 (r := (159, .bipush 8, 2)) rfl
theorem dX16_due_161 : decode cX16_due 161 = .ok (.istore 10, 2) := dk_get daX16_due 89 (r := (161, .istore 10, 2)) rfl
theorem dX16_due_163 : decode cX16_due 163 = .ok (.iload 10, 2) := dk_get daX16_due 90 (r := (163, .iload 10, 2)) rfl
theorem dX16_due_165 : decode cX16_due 165 = .ok (.ifCond .lt 51, 3) := dk_get daX16_due 91 (r := (165, .ifCond .lt 51, 3)) rfl
theorem dX16_due_168 : decode cX16_due 168 = .ok (.lload 8, 2) := dk_get daX16_due 92 (r := (168, .lload 8, 2)) rfl
theorem dX16_due_170 : decode cX16_due 170 = .ok (.bipush 32, 2) := dk_get daX16_due 93 (r := (170, .bipush 32, 2)) rfl
theorem dX16_due_172 : decode cX16_due 172 = .ok (.lshl, 1) := dk_get daX16_due 94 (r := (172, .lshl, 1)) rfl
theorem dX16_due_173 : decode cX16_due 173 = .ok (.aload_n 0, 1) := dk_get daX16_due 95 (r := (173, .aload_n 0, 1)) rfl
theorem dX16_due_174 : decode cX16_due 174 = .ok (.getfield 382, 3) := dk_get daX16_due 96 (r := (174, .getfield 382, 3)) rfl
theorem dX16_due_177 : decode cX16_due 177 = .ok (.iload 10, 2) := dk_get daX16_due 97 (r := (177, .iload 10, 2)) rfl
theorem dX16_due_179 : decode cX16_due 179 = .ok (.iaload, 1) := dk_get daX16_due 98 (r := (179, .iaload, 1)) rfl
theorem dX16_due_180 : decode cX16_due 180 = .ok (.i2l, 1) := dk_get daX16_due 99 (r := (180, .i2l, 1)) rfl
theorem dX16_due_181 : decode cX16_due 181 = .ok (.ldc2_w 380, 3) := dk_get daX16_due 100 (r := (181, .ldc2_w 380, 3)) rfl
theorem dX16_due_184 : decode cX16_due 184 = .ok (.land, 1) := dk_get daX16_due 101 (r := (184, .land, 1)) rfl
theorem dX16_due_185 : decode cX16_due 185 = .ok (.lor, 1) := dk_get daX16_due 102 (r := (185, .lor, 1)) rfl
theorem dX16_due_186 : decode cX16_due 186 = .ok (.lstore 8, 2) := dk_get daX16_due 103 (r := (186, .lstore 8, 2)) rfl
theorem dX16_due_188 : decode cX16_due 188 = .ok (.aload_n 0, 1) := dk_get daX16_due 104 (r := (188, .aload_n 0, 1)) rfl
theorem dX16_due_189 : decode cX16_due 189 = .ok (.getfield 382, 3) := dk_get daX16_due 105 (r := (189, .getfield 382, 3)) rfl
theorem dX16_due_192 : decode cX16_due 192 = .ok (.iload 10, 2) := dk_get daX16_due 106 (r := (192, .iload 10, 2)) rfl
theorem dX16_due_194 : decode cX16_due 194 = .ok (.lload 8, 2) := dk_get daX16_due 107 (r := (194, .lload 8, 2)) rfl
theorem dX16_due_196 : decode cX16_due 196 = .ok (.ldc2_w 385, 3) := dk_get daX16_due 108 (r := (196, .ldc2_w 385, 3)) rfl
theorem dX16_due_199 : decode cX16_due 199 = .ok (.ldiv, 1) := dk_get daX16_due 109 (r := (199, .ldiv, 1)) rfl
theorem dX16_due_200 : decode cX16_due 200 = .ok (.l2i, 1) := dk_get daX16_due 110 (r := (200, .l2i, 1)) rfl
theorem dX16_due_201 : decode cX16_due 201 = .ok (.iastore, 1) := dk_get daX16_due 111 (r := (201, .iastore, 1)) rfl
theorem dX16_due_202 : decode cX16_due 202 = .ok (.lload 8, 2) := dk_get daX16_due 112 (r := (202, .lload 8, 2)) rfl
theorem dX16_due_204 : decode cX16_due 204 = .ok (.ldc2_w 385, 3) := dk_get daX16_due 113 (r := (204, .ldc2_w 385, 3)) rfl
theorem dX16_due_207 : decode cX16_due 207 = .ok (.lrem, 1) := dk_get daX16_due 114 (r := (207, .lrem, 1)) rfl
theorem dX16_due_208 : decode cX16_due 208 = .ok (.lstore 8, 2) := dk_get daX16_due 115 (r := (208, .lstore 8, 2)) rfl
theorem dX16_due_210 : decode cX16_due 210 = .ok (.iinc 10 (-1), 3) := dk_get daX16_due 116 (r := (210, .iinc 10 (-1), 3)) rfl
theorem dX16_due_213 : decode cX16_due 213 = .ok (.goto (-50), 3) := dk_get daX16_due 117 (r := (213, .goto (-50), 3)) rfl
theorem dX16_due_216 : decode cX16_due 216 = .ok (.iconst 0, 1) := dk_get daX16_due 118 (r := (216, .iconst 0, 1)) rfl
theorem dX16_due_217 : decode cX16_due 217 = .ok (.istore 10, 2) := dk_get daX16_due 119 (r := (217, .istore 10, 2)) rfl
theorem dX16_due_219 : decode cX16_due 219 = .ok (.iload 10, 2) := dk_get daX16_due 120 (r := (219, .iload 10, 2)) rfl
theorem dX16_due_221 : decode cX16_due 221 = .ok (.bipush 8, 2) := dk_get daX16_due 121 (r := (221, .bipush 8, 2)) rfl
theorem dX16_due_223 : decode cX16_due 223 = .ok (.if_icmp .ge 23, 3) := dk_get daX16_due 122 (r := (223, .if_icmp .ge 23, 3)) rfl
theorem dX16_due_226 : decode cX16_due 226 = .ok (.aload_n 0, 1) := dk_get daX16_due 123 (r := (226, .aload_n 0, 1)) rfl
theorem dX16_due_227 : decode cX16_due 227 = .ok (.getfield 342, 3) := dk_get daX16_due 124 (r := (227, .getfield 342, 3)) rfl
theorem dX16_due_230 : decode cX16_due 230 = .ok (.iload 10, 2) := dk_get daX16_due 125 (r := (230, .iload 10, 2)) rfl
theorem dX16_due_232 : decode cX16_due 232 = .ok (.aload_n 0, 1) := dk_get daX16_due 126 (r := (232, .aload_n 0, 1)) rfl
theorem dX16_due_233 : decode cX16_due 233 = .ok (.getfield 382, 3) := dk_get daX16_due 127 (r := (233, .getfield 382, 3)) rfl
theorem dX16_due_236 : decode cX16_due 236 = .ok (.iload 10, 2) := dk_get daX16_due 128 (r := (236, .iload 10, 2)) rfl
theorem dX16_due_238 : decode cX16_due 238 = .ok (.iaload, 1) := dk_get daX16_due 129 (r := (238, .iaload, 1)) rfl
theorem dX16_due_239 : decode cX16_due 239 = .ok (.iastore, 1) := dk_get daX16_due 130 (r := (239, .iastore, 1)) rfl
theorem dX16_due_240 : decode cX16_due 240 = .ok (.iinc 10 1, 3) := dk_get daX16_due 131 (r := (240, .iinc 10 1, 3)) rfl
theorem dX16_due_243 : decode cX16_due 243 = .ok (.goto (-24), 3) := dk_get daX16_due 132 (r := (243, .goto (-24), 3)) rfl
theorem dX16_due_246 : decode cX16_due 246 = .ok (.aload_n 0, 1) := dk_get daX16_due 133 (r := (246, .aload_n 0, 1)) rfl
theorem dX16_due_247 : decode cX16_due 247 = .ok (.getfield 382, 3) := dk_get daX16_due 134 (r := (247, .getfield 382, 3)) rfl
theorem dX16_due_250 : decode cX16_due 250 = .ok (.bipush 8, 2) := dk_get daX16_due 135 (r := (250, .bipush 8, 2)) rfl
theorem dX16_due_252 : decode cX16_due 252 = .ok (.iaload, 1) := dk_get daX16_due 136 (r := (252, .iaload, 1)) rfl
theorem dX16_due_253 : decode cX16_due 253 = .ok (.ifCond .ne 17, 3) := dk_get daX16_due 137 (r := (253, .ifCond .ne 17, 3)) rfl
theorem dX16_due_256 : decode cX16_due 256 = .ok (.aload_n 0, 1) := dk_get daX16_due 138 (r := (256, .aload_n 0, 1)) rfl
theorem dX16_due_257 : decode cX16_due 257 = .ok (.getfield 342, 3) := dk_get daX16_due 139 (r := (257, .getfield 342, 3)) rfl
theorem dX16_due_260 : decode cX16_due 260 = .ok (.aload_n 0, 1) := dk_get daX16_due 140 (r := (260, .aload_n 0, 1)) rfl
theorem dX16_due_261 : decode cX16_due 261 = .ok (.getfield 387, 3) := dk_get daX16_due 141 (r := (261, .getfield 387, 3)) rfl
theorem dX16_due_264 : decode cX16_due 264 = .ok (.invokestatic 165, 3) := dk_get daX16_due 142 (r := (264, .invokestatic 165, 3)) rfl
theorem dX16_due_267 : decode cX16_due 267 = .ok (.ifCond .le 14, 3) := dk_get daX16_due 143 (r := (267, .ifCond .le 14, 3)) rfl
theorem dX16_due_270 : decode cX16_due 270 = .ok (.aload_n 0, 1) := dk_get daX16_due 144 (r := (270, .aload_n 0, 1)) rfl
theorem dX16_due_271 : decode cX16_due 271 = .ok (.getfield 387, 3) := dk_get daX16_due 145 (r := (271, .getfield 387, 3)) rfl
theorem dX16_due_274 : decode cX16_due 274 = .ok (.aload_n 0, 1) := dk_get daX16_due 146 (r := (274, .aload_n 0, 1)) rfl
theorem dX16_due_275 : decode cX16_due 275 = .ok (.getfield 342, 3) := dk_get daX16_due 147 (r := (275, .getfield 342, 3)) rfl
theorem dX16_due_278 : decode cX16_due 278 = .ok (.invokestatic 182, 3) := dk_get daX16_due 148 (r := (278, .invokestatic 182, 3)) rfl
theorem dX16_due_281 : decode cX16_due 281 = .ok (.aload_n 0, 1) := dk_get daX16_due 149 (r := (281, .aload_n 0, 1)) rfl
theorem dX16_due_282 : decode cX16_due 282 = .ok (.getfield 342, 3) := dk_get daX16_due 150 (r := (282, .getfield 342, 3)) rfl
theorem dX16_due_285 : decode cX16_due 285 = .ok (.invokestatic 390, 3) := dk_get daX16_due 151 (r := (285, .invokestatic 390, 3)) rfl
theorem dX16_due_288 : decode cX16_due 288 = .ok (.ireturn, 1) := dk_get daX16_due 152 (r := (288, .ireturn, 1)) rfl
abbrev mX16_isIn : ks_M := (RX16, cX16_isIn, 4, (some .boolean), "isIn")
def drX16_isIn : List (Nat × Instr × Nat) := [(0, .iload_n 2, 1), (1, .istore_n 3, 1), (2, .iload_n 3, 1), (3, .iload_n 1, 1), (4, .if_icmp .le 16, 3), (7, .aload_n 0, 1), (8, .getfield 347, 3), (11, .iload_n 3, 1), (12, .aaload, 1), (13, .getfield 354, 3), (16, .istore_n 3, 1), (17, .goto (-15), 3), (20, .iload_n 3, 1), (21, .iload_n 1, 1), (22, .if_icmp .ne 7, 3), (25, .iconst 1, 1), (26, .goto 4, 3), (29, .iconst 0, 1), (30, .ireturn, 1)]
set_option maxRecDepth 100000 in
theorem daX16_isIn : dk_all cX16_isIn drX16_isIn = true := by decide +kernel
theorem dX16_isIn_0 : decode cX16_isIn 0 = .ok (.iload_n 2, 1) := dk_get daX16_isIn 0 (r := (0, .iload_n 2, 1)) rfl
theorem dX16_isIn_1 : decode cX16_isIn 1 = .ok (.istore_n 3, 1) := dk_get daX16_isIn 1 (r := (1, .istore_n 3, 1)) rfl
theorem dX16_isIn_2 : decode cX16_isIn 2 = .ok (.iload_n 3, 1) := dk_get daX16_isIn 2 (r := (2, .iload_n 3, 1)) rfl
theorem dX16_isIn_3 : decode cX16_isIn 3 = .ok (.iload_n 1, 1) := dk_get daX16_isIn 3 (r := (3, .iload_n 1, 1)) rfl
theorem dX16_isIn_4 : decode cX16_isIn 4 = .ok (.if_icmp .le 16, 3) := dk_get daX16_isIn 4 (r := (4, .if_icmp .le 16, 3)) rfl
theorem dX16_isIn_7 : decode cX16_isIn 7 = .ok (.aload_n 0, 1) := dk_get daX16_isIn 5 (r := (7, .aload_n 0, 1)) rfl
theorem dX16_isIn_8 : decode cX16_isIn 8 = .ok (.getfield 347, 3) := dk_get daX16_isIn 6 (r := (8, .getfield 347, 3)) rfl
theorem dX16_isIn_11 : decode cX16_isIn 11 = .ok (.iload_n 3, 1) := dk_get daX16_isIn 7 (r := (11, .iload_n 3, 1)) rfl
theorem dX16_isIn_12 : decode cX16_isIn 12 = .ok (.aaload, 1) := dk_get daX16_isIn 8 (r := (12, .aaload, 1)) rfl
theorem dX16_isIn_13 : decode cX16_isIn 13 = .ok (.getfield 354, 3) := dk_get daX16_isIn 9 (r := (13, .getfield 354, 3)) rfl
theorem dX16_isIn_16 : decode cX16_isIn 16 = .ok (.istore_n 3, 1) := dk_get daX16_isIn 10 (r := (16, .istore_n 3, 1)) rfl
theorem dX16_isIn_17 : decode cX16_isIn 17 = .ok (.goto (-15), 3) := dk_get daX16_isIn 11 (r := (17, .goto (-15), 3)) rfl
theorem dX16_isIn_20 : decode cX16_isIn 20 = .ok (.iload_n 3, 1) := dk_get daX16_isIn 12 (r := (20, .iload_n 3, 1)) rfl
theorem dX16_isIn_21 : decode cX16_isIn 21 = .ok (.iload_n 1, 1) := dk_get daX16_isIn 13 (r := (21, .iload_n 1, 1)) rfl
theorem dX16_isIn_22 : decode cX16_isIn 22 = .ok (.if_icmp .ne 7, 3) := dk_get daX16_isIn 14 (r := (22, .if_icmp .ne 7, 3)) rfl
theorem dX16_isIn_25 : decode cX16_isIn 25 = .ok (.iconst 1, 1) := dk_get daX16_isIn 15 (r := (25, .iconst 1, 1)) rfl
theorem dX16_isIn_26 : decode cX16_isIn 26 = .ok (.goto 4, 3) := dk_get daX16_isIn 16 (r := (26, .goto 4, 3)) rfl
theorem dX16_isIn_29 : decode cX16_isIn 29 = .ok (.iconst 0, 1) := dk_get daX16_isIn 17 (r := (29, .iconst 0, 1)) rfl
theorem dX16_isIn_30 : decode cX16_isIn 30 = .ok (.ireturn, 1) := dk_get daX16_isIn 18 (r := (30, .ireturn, 1)) rfl
abbrev mX16_root : ks_M := (RX16, cX16_root, 6, none, "root")
def drX16_root : List (Nat × Instr × Nat) := [(0, .iconst 0, 1), (1, .istore_n 3, 1), (2, .iload_n 3, 1), (3, .bipush 32, 2), (5, .if_icmp .ge 16, 3), (8, .aload_n 0, 1), (9, .getfield 394, 3), (12, .iload_n 3, 1), (13, .iconst 0, 1), (14, .bastore, 1), (15, .iinc 3 1, 3), (18, .goto (-16), 3), (21, .iload_n 2, 1), (22, .ifCond .ne 4, 3), (25, .return_, 1), (26, .iconst 0, 1), (27, .istore_n 3, 1), (28, .iload_n 3, 1), (29, .bipush 32, 2), (31, .iload_n 2, 1), (32, .imul, 1), (33, .if_icmp .ge 18, 3), (36, .aload_n 0, 1), (37, .getfield 397, 3), (40, .iload_n 3, 1), (41, .aload_n 1, 1), (42, .iload_n 3, 1), (43, .baload, 1), (44, .bastore, 1), (45, .iinc 3 1, 3), (48, .goto (-20), 3), (51, .iload_n 2, 1), (52, .istore_n 3, 1), (53, .iload_n 3, 1), (54, .iconst 1, 1), (55, .if_icmp .le 136, 3), (58, .iload_n 3, 1), (59, .iconst 2, 1), (60, .irem, 1), (61, .iconst 1, 1), (62, .if_icmp .ne 49, 3), (65, .iconst 0, 1), (66, .istore 4, 2), (68, .iload 4, 2), (70, .bipush 32, 2), (72, .if_icmp .ge 36, 3), (75, .aload_n 0, 1), (76, .getfield 397, 3), (79, .bipush 32, 2), (81, .iload_n 3, 1), (82, .imul, 1), (83, .iload 4, 2), (85, .iadd, 1), (86, .aload_n 0, 1), (87, .getfield 397, 3), (90, .bipush 32, 2), (92, .iload_n 3, 1), (93, .imul, 1), (94, .bipush 32, 2), (96, .isub, 1), (97, .iload 4, 2), (99, .iadd, 1), (100, .baload, 1), (101, .bastore, 1), (102, .iinc 4 1, 3), (105, .goto (-37), 3), (108, .iinc 3 1, 3), (111, .iconst 0, 1), (112, .istore 4, 2), (114, .iload 4, 2), (116, .iload_n 3, 1), (117, .iconst 2, 1), (118, .idiv, 1), (119, .if_icmp .ge 65, 3), (122, .iconst 0, 1), (123, .istore 5, 2), (125, .iload 5, 2), (127, .bipush 64, 2), (129, .if_icmp .ge 29, 3), (132, .aload_n 0, 1), (133, .getfield 400, 3), (136, .iload 5, 2), (138, .aload_n 0, 1), (139, .getfield 397, 3), (142, .bipush 64, 2), (144, .iload 4, 2), (146, .imul, 1), (147, .iload 5, 2), (149, .iadd, 1), (150, .baload, 1), (151, .bastore, 1), (152, .iinc 5 1, 3), (155, .goto (-30), 3), (158, .aload_n 0, 1), (159, .aload_n 0, 1), (160, .getfield 400, 3), (163, .iconst 0, 1), (164, .bipush 64, 2), (166, .aload_n 0, 1), (167, .getfield 397, 3), (170, .bipush 32, 2), (172, .iload 4, 2), (174, .imul, 1), (175, .invokevirtual 319, 3), (178, .iinc 4 1, 3), (181, .goto (-67), 3), (184, .iload_n 3, 1), (185, .iconst 2, 1), (186, .idiv, 1), (187, .istore_n 3, 1), (188, .goto (-135), 3), (191, .iconst 0, 1), (192, .istore 4, 2), (194, .iload 4, 2), (196, .bipush 32, 2), (198, .if_icmp .ge 23, 3), (201, .aload_n 0, 1), (202, .getfield 394, 3), (205, .iload 4, 2), (207, .aload_n 0, 1), (208, .getfield 397, 3), (211, .iload 4, 2), (213, .baload, 1), (214, .bastore, 1), (215, .iinc 4 1, 3), (218, .goto (-24), 3), (221, .return_, 1)]
set_option maxRecDepth 100000 in
theorem daX16_root : dk_all cX16_root drX16_root = true := by decide +kernel
theorem dX16_root_0 : decode cX16_root 0 = .ok (.iconst 0, 1) := dk_get daX16_root 0 (r := (0, .iconst 0, 1)) rfl
theorem dX16_root_1 : decode cX16_root 1 = .ok (.istore_n 3, 1) := dk_get daX16_root 1 (r := (1, .istore_n 3, 1)) rfl
theorem dX16_root_2 : decode cX16_root 2 = .ok (.iload_n 3, 1) := dk_get daX16_root 2 (r := (2, .iload_n 3, 1)) rfl
theorem dX16_root_3 : decode cX16_root 3 = .ok (.bipush 32, 2) := dk_get daX16_root 3 (r := (3, .bipush 32, 2)) rfl
theorem dX16_root_5 : decode cX16_root 5 = .ok (.if_icmp .ge 16, 3) := dk_get daX16_root 4 (r := (5, .if_icmp .ge 16, 3)) rfl
theorem dX16_root_8 : decode cX16_root 8 = .ok (.aload_n 0, 1) := dk_get daX16_root 5 (r := (8, .aload_n 0, 1)) rfl
theorem dX16_root_9 : decode cX16_root 9 = .ok (.getfield 394, 3) := dk_get daX16_root 6 (r := (9, .getfield 394, 3)) rfl
theorem dX16_root_12 : decode cX16_root 12 = .ok (.iload_n 3, 1) := dk_get daX16_root 7 (r := (12, .iload_n 3, 1)) rfl
theorem dX16_root_13 : decode cX16_root 13 = .ok (.iconst 0, 1) := dk_get daX16_root 8 (r := (13, .iconst 0, 1)) rfl
theorem dX16_root_14 : decode cX16_root 14 = .ok (.bastore, 1) := dk_get daX16_root 9 (r := (14, .bastore, 1)) rfl
theorem dX16_root_15 : decode cX16_root 15 = .ok (.iinc 3 1, 3) := dk_get daX16_root 10 (r := (15, .iinc 3 1, 3)) rfl
theorem dX16_root_18 : decode cX16_root 18 = .ok (.goto (-16), 3) := dk_get daX16_root 11 (r := (18, .goto (-16), 3)) rfl
theorem dX16_root_21 : decode cX16_root 21 = .ok (.iload_n 2, 1) := dk_get daX16_root 12 (r := (21, .iload_n 2, 1)) rfl
theorem dX16_root_22 : decode cX16_root 22 = .ok (.ifCond .ne 4, 3) := dk_get daX16_root 13 (r := (22, .ifCond .ne 4, 3)) rfl
theorem dX16_root_25 : decode cX16_root 25 = .ok (.return_, 1) := dk_get daX16_root 14 (r := (25, .return_, 1)) rfl
theorem dX16_root_26 : decode cX16_root 26 = .ok (.iconst 0, 1) := dk_get daX16_root 15 (r := (26, .iconst 0, 1)) rfl
theorem dX16_root_27 : decode cX16_root 27 = .ok (.istore_n 3, 1) := dk_get daX16_root 16 (r := (27, .istore_n 3, 1)) rfl
theorem dX16_root_28 : decode cX16_root 28 = .ok (.iload_n 3, 1) := dk_get daX16_root 17 (r := (28, .iload_n 3, 1)) rfl
theorem dX16_root_29 : decode cX16_root 29 = .ok (.bipush 32, 2) := dk_get daX16_root 18 (r := (29, .bipush 32, 2)) rfl
theorem dX16_root_31 : decode cX16_root 31 = .ok (.iload_n 2, 1) := dk_get daX16_root 19 (r := (31, .iload_n 2, 1)) rfl
theorem dX16_root_32 : decode cX16_root 32 = .ok (.imul, 1) := dk_get daX16_root 20 (r := (32, .imul, 1)) rfl
theorem dX16_root_33 : decode cX16_root 33 = .ok (.if_icmp .ge 18, 3) := dk_get daX16_root 21 (r := (33, .if_icmp .ge 18, 3)) rfl
theorem dX16_root_36 : decode cX16_root 36 = .ok (.aload_n 0, 1) := dk_get daX16_root 22 (r := (36, .aload_n 0, 1)) rfl
theorem dX16_root_37 : decode cX16_root 37 = .ok (.getfield 397, 3) := dk_get daX16_root 23 (r := (37, .getfield 397, 3)) rfl
theorem dX16_root_40 : decode cX16_root 40 = .ok (.iload_n 3, 1) := dk_get daX16_root 24 (r := (40, .iload_n 3, 1)) rfl
theorem dX16_root_41 : decode cX16_root 41 = .ok (.aload_n 1, 1) := dk_get daX16_root 25 (r := (41, .aload_n 1, 1)) rfl
theorem dX16_root_42 : decode cX16_root 42 = .ok (.iload_n 3, 1) := dk_get daX16_root 26 (r := (42, .iload_n 3, 1)) rfl
theorem dX16_root_43 : decode cX16_root 43 = .ok (.baload, 1) := dk_get daX16_root 27 (r := (43, .baload, 1)) rfl
theorem dX16_root_44 : decode cX16_root 44 = .ok (.bastore, 1) := dk_get daX16_root 28 (r := (44, .bastore, 1)) rfl
theorem dX16_root_45 : decode cX16_root 45 = .ok (.iinc 3 1, 3) := dk_get daX16_root 29 (r := (45, .iinc 3 1, 3)) rfl
theorem dX16_root_48 : decode cX16_root 48 = .ok (.goto (-20), 3) := dk_get daX16_root 30 (r := (48, .goto (-20), 3)) rfl
theorem dX16_root_51 : decode cX16_root 51 = .ok (.iload_n 2, 1) := dk_get daX16_root 31 (r := (51, .iload_n 2, 1)) rfl
theorem dX16_root_52 : decode cX16_root 52 = .ok (.istore_n 3, 1) := dk_get daX16_root 32 (r := (52, .istore_n 3, 1)) rfl
theorem dX16_root_53 : decode cX16_root 53 = .ok (.iload_n 3, 1) := dk_get daX16_root 33 (r := (53, .iload_n 3, 1)) rfl
theorem dX16_root_54 : decode cX16_root 54 = .ok (.iconst 1, 1) := dk_get daX16_root 34 (r := (54, .iconst 1, 1)) rfl
theorem dX16_root_55 : decode cX16_root 55 = .ok (.if_icmp .le 136, 3) := dk_get daX16_root 35 (r := (55, .if_icmp .le 136, 3)) rfl
theorem dX16_root_58 : decode cX16_root 58 = .ok (.iload_n 3, 1) := dk_get daX16_root 36 (r := (58, .iload_n 3, 1)) rfl
theorem dX16_root_59 : decode cX16_root 59 = .ok (.iconst 2, 1) := dk_get daX16_root 37 (r := (59, .iconst 2, 1)) rfl
theorem dX16_root_60 : decode cX16_root 60 = .ok (.irem, 1) := dk_get daX16_root 38 (r := (60, .irem, 1)) rfl
theorem dX16_root_61 : decode cX16_root 61 = .ok (.iconst 1, 1) := dk_get daX16_root 39 (r := (61, .iconst 1, 1)) rfl
theorem dX16_root_62 : decode cX16_root 62 = .ok (.if_icmp .ne 49, 3) := dk_get daX16_root 40 (r := (62, .if_icmp .ne 49, 3)) rfl
theorem dX16_root_65 : decode cX16_root 65 = .ok (.iconst 0, 1) := dk_get daX16_root 41 (r := (65, .iconst 0, 1)) rfl
theorem dX16_root_66 : decode cX16_root 66 = .ok (.istore 4, 2) := dk_get daX16_root 42 (r := (66, .istore 4, 2)) rfl
theorem dX16_root_68 : decode cX16_root 68 = .ok (.iload 4, 2) := dk_get daX16_root 43 (r := (68, .iload 4, 2)) rfl
theorem dX16_root_70 : decode cX16_root 70 = .ok (.bipush 32, 2) := dk_get daX16_root 44 (r := (70, .bipush 32, 2)) rfl
theorem dX16_root_72 : decode cX16_root 72 = .ok (.if_icmp .ge 36, 3) := dk_get daX16_root 45 (r := (72, .if_icmp .ge 36, 3)) rfl
theorem dX16_root_75 : decode cX16_root 75 = .ok (.aload_n 0, 1) := dk_get daX16_root 46 (r := (75, .aload_n 0, 1)) rfl
theorem dX16_root_76 : decode cX16_root 76 = .ok (.getfield 397, 3) := dk_get daX16_root 47 (r := (76, .getfield 397, 3)) rfl
theorem dX16_root_79 : decode cX16_root 79 = .ok (.bipush 32, 2) := dk_get daX16_root 48 (r := (79, .bipush 32, 2)) rfl
theorem dX16_root_81 : decode cX16_root 81 = .ok (.iload_n 3, 1) := dk_get daX16_root 49 (r := (81, .iload_n 3, 1)) rfl
theorem dX16_root_82 : decode cX16_root 82 = .ok (.imul, 1) := dk_get daX16_root 50 (r := (82, .imul, 1)) rfl
theorem dX16_root_83 : decode cX16_root 83 = .ok (.iload 4, 2) := dk_get daX16_root 51 (r := (83, .iload 4, 2)) rfl
theorem dX16_root_85 : decode cX16_root 85 = .ok (.iadd, 1) := dk_get daX16_root 52 (r := (85, .iadd, 1)) rfl
theorem dX16_root_86 : decode cX16_root 86 = .ok (.aload_n 0, 1) := dk_get daX16_root 53 (r := (86, .aload_n 0, 1)) rfl
theorem dX16_root_87 : decode cX16_root 87 = .ok (.getfield 397, 3) := dk_get daX16_root 54 (r := (87, .getfield 397, 3)) rfl
theorem dX16_root_90 : decode cX16_root 90 = .ok (.bipush 32, 2) := dk_get daX16_root 55 (r := (90, .bipush 32, 2)) rfl
theorem dX16_root_92 : decode cX16_root 92 = .ok (.iload_n 3, 1) := dk_get daX16_root 56 (r := (92, .iload_n 3, 1)) rfl
theorem dX16_root_93 : decode cX16_root 93 = .ok (.imul, 1) := dk_get daX16_root 57 (r := (93, .imul, 1)) rfl
theorem dX16_root_94 : decode cX16_root 94 = .ok (.bipush 32, 2) := dk_get daX16_root 58 (r := (94, .bipush 32, 2)) rfl
theorem dX16_root_96 : decode cX16_root 96 = .ok (.isub, 1) := dk_get daX16_root 59 (r := (96, .isub, 1)) rfl
theorem dX16_root_97 : decode cX16_root 97 = .ok (.iload 4, 2) := dk_get daX16_root 60 (r := (97, .iload 4, 2)) rfl
theorem dX16_root_99 : decode cX16_root 99 = .ok (.iadd, 1) := dk_get daX16_root 61 (r := (99, .iadd, 1)) rfl
theorem dX16_root_100 : decode cX16_root 100 = .ok (.baload, 1) := dk_get daX16_root 62 (r := (100, .baload, 1)) rfl
theorem dX16_root_101 : decode cX16_root 101 = .ok (.bastore, 1) := dk_get daX16_root 63 (r := (101, .bastore, 1)) rfl
theorem dX16_root_102 : decode cX16_root 102 = .ok (.iinc 4 1, 3) := dk_get daX16_root 64 (r := (102, .iinc 4 1, 3)) rfl
theorem dX16_root_105 : decode cX16_root 105 = .ok (.goto (-37), 3) := dk_get daX16_root 65 (r := (105, .goto (-37), 3)) rfl
theorem dX16_root_108 : decode cX16_root 108 = .ok (.iinc 3 1, 3) := dk_get daX16_root 66 (r := (108, .iinc 3 1, 3)) rfl
theorem dX16_root_111 : decode cX16_root 111 = .ok (.iconst 0, 1) := dk_get daX16_root 67 (r := (111, .iconst 0, 1)) rfl
theorem dX16_root_112 : decode cX16_root 112 = .ok (.istore 4, 2) := dk_get daX16_root 68 (r := (112, .istore 4, 2)) rfl
theorem dX16_root_114 : decode cX16_root 114 = .ok (.iload 4, 2) := dk_get daX16_root 69 (r := (114, .iload 4, 2)) rfl
theorem dX16_root_116 : decode cX16_root 116 = .ok (.iload_n 3, 1) := dk_get daX16_root 70 (r := (116, .iload_n 3, 1)) rfl
theorem dX16_root_117 : decode cX16_root 117 = .ok (.iconst 2, 1) := dk_get daX16_root 71 (r := (117, .iconst 2, 1)) rfl
theorem dX16_root_118 : decode cX16_root 118 = .ok (.idiv, 1) := dk_get daX16_root 72 (r := (118, .idiv, 1)) rfl
theorem dX16_root_119 : decode cX16_root 119 = .ok (.if_icmp .ge 65, 3) := dk_get daX16_root 73 (r := (119, .if_icmp .ge 65, 3)) rfl
theorem dX16_root_122 : decode cX16_root 122 = .ok (.iconst 0, 1) := dk_get daX16_root 74 (r := (122, .iconst 0, 1)) rfl
theorem dX16_root_123 : decode cX16_root 123 = .ok (.istore 5, 2) := dk_get daX16_root 75 (r := (123, .istore 5, 2)) rfl
theorem dX16_root_125 : decode cX16_root 125 = .ok (.iload 5, 2) := dk_get daX16_root 76 (r := (125, .iload 5, 2)) rfl
theorem dX16_root_127 : decode cX16_root 127 = .ok (.bipush 64, 2) := dk_get daX16_root 77 (r := (127, .bipush 64, 2)) rfl
theorem dX16_root_129 : decode cX16_root 129 = .ok (.if_icmp .ge 29, 3) := dk_get daX16_root 78 (r := (129, .if_icmp .ge 29, 3)) rfl
theorem dX16_root_132 : decode cX16_root 132 = .ok (.aload_n 0, 1) := dk_get daX16_root 79 (r := (132, .aload_n 0, 1)) rfl
theorem dX16_root_133 : decode cX16_root 133 = .ok (.getfield 400, 3) := dk_get daX16_root 80 (r := (133, .getfield 400, 3)) rfl
theorem dX16_root_136 : decode cX16_root 136 = .ok (.iload 5, 2) := dk_get daX16_root 81 (r := (136, .iload 5, 2)) rfl
theorem dX16_root_138 : decode cX16_root 138 = .ok (.aload_n 0, 1) := dk_get daX16_root 82 (r := (138, .aload_n 0, 1)) rfl
theorem dX16_root_139 : decode cX16_root 139 = .ok (.getfield 397, 3) := dk_get daX16_root 83 (r := (139, .getfield 397, 3)) rfl
theorem dX16_root_142 : decode cX16_root 142 = .ok (.bipush 64, 2) := dk_get daX16_root 84 (r := (142, .bipush 64, 2)) rfl
theorem dX16_root_144 : decode cX16_root 144 = .ok (.iload 4, 2) := dk_get daX16_root 85 (r := (144, .iload 4, 2)) rfl
theorem dX16_root_146 : decode cX16_root 146 = .ok (.imul, 1) := dk_get daX16_root 86 (r := (146, .imul, 1)) rfl
theorem dX16_root_147 : decode cX16_root 147 = .ok (.iload 5, 2) := dk_get daX16_root 87 (r := (147, .iload 5, 2)) rfl
theorem dX16_root_149 : decode cX16_root 149 = .ok (.iadd, 1) := dk_get daX16_root 88 (r := (149, .iadd, 1)) rfl
theorem dX16_root_150 : decode cX16_root 150 = .ok (.baload, 1) := dk_get daX16_root 89 (r := (150, .baload, 1)) rfl
theorem dX16_root_151 : decode cX16_root 151 = .ok (.bastore, 1) := dk_get daX16_root 90 (r := (151, .bastore, 1)) rfl
theorem dX16_root_152 : decode cX16_root 152 = .ok (.iinc 5 1, 3) := dk_get daX16_root 91 (r := (152, .iinc 5 1, 3)) rfl
theorem dX16_root_155 : decode cX16_root 155 = .ok (.goto (-30), 3) := dk_get daX16_root 92 (r := (155, .goto (-30), 3)) rfl
theorem dX16_root_158 : decode cX16_root 158 = .ok (.aload_n 0, 1) := dk_get daX16_root 93 (r := (158, .aload_n 0, 1)) rfl
theorem dX16_root_159 : decode cX16_root 159 = .ok (.aload_n 0, 1) := dk_get daX16_root 94 (r := (159, .aload_n 0, 1)) rfl
theorem dX16_root_160 : decode cX16_root 160 = .ok (.getfield 400, 3) := dk_get daX16_root 95 (r := (160, .getfield 400, 3)) rfl
theorem dX16_root_163 : decode cX16_root 163 = .ok (.iconst 0, 1) := dk_get daX16_root 96 (r := (163, .iconst 0, 1)) rfl
theorem dX16_root_164 : decode cX16_root 164 = .ok (.bipush 64, 2) := dk_get daX16_root 97 (r := (164, .bipush 64, 2)) rfl
theorem dX16_root_166 : decode cX16_root 166 = .ok (.aload_n 0, 1) := dk_get daX16_root 98 (r := (166, .aload_n 0, 1)) rfl
theorem dX16_root_167 : decode cX16_root 167 = .ok (.getfield 397, 3) := dk_get daX16_root 99 (r := (167, .getfield 397, 3)) rfl
theorem dX16_root_170 : decode cX16_root 170 = .ok (.bipush 32, 2) := dk_get daX16_root 100 (r := (170, .bipush 32, 2)) rfl
theorem dX16_root_172 : decode cX16_root 172 = .ok (.iload 4, 2) := dk_get daX16_root 101 (r := (172, .iload 4, 2)) rfl
theorem dX16_root_174 : decode cX16_root 174 = .ok (.imul, 1) := dk_get daX16_root 102 (r := (174, .imul, 1)) rfl
theorem dX16_root_175 : decode cX16_root 175 = .ok (.invokevirtual 319, 3) := dk_get daX16_root 103 (r := (175, .invokevirtual 319, 3)) rfl
theorem dX16_root_178 : decode cX16_root 178 = .ok (.iinc 4 1, 3) := dk_get daX16_root 104 (r := (178, .iinc 4 1, 3)) rfl
theorem dX16_root_181 : decode cX16_root 181 = .ok (.goto (-67), 3) := dk_get daX16_root 105 (r := (181, .goto (-67), 3)) rfl
theorem dX16_root_184 : decode cX16_root 184 = .ok (.iload_n 3, 1) := dk_get daX16_root 106 (r := (184, .iload_n 3, 1)) rfl
theorem dX16_root_185 : decode cX16_root 185 = .ok (.iconst 2, 1) := dk_get daX16_root 107 (r := (185, .iconst 2, 1)) rfl
theorem dX16_root_186 : decode cX16_root 186 = .ok (.idiv, 1) := dk_get daX16_root 108 (r := (186, .idiv, 1)) rfl
theorem dX16_root_187 : decode cX16_root 187 = .ok (.istore_n 3, 1) := dk_get daX16_root 109 (r := (187, .istore_n 3, 1)) rfl
theorem dX16_root_188 : decode cX16_root 188 = .ok (.goto (-135), 3) := dk_get daX16_root 110 (r := (188, .goto (-135), 3)) rfl
theorem dX16_root_191 : decode cX16_root 191 = .ok (.iconst 0, 1) := dk_get daX16_root 111 (r := (191, .iconst 0, 1)) rfl
theorem dX16_root_192 : decode cX16_root 192 = .ok (.istore 4, 2) := dk_get daX16_root 112 (r := (192, .istore 4, 2)) rfl
theorem dX16_root_194 : decode cX16_root 194 = .ok (.iload 4, 2) := dk_get daX16_root 113 (r := (194, .iload 4, 2)) rfl
theorem dX16_root_196 : decode cX16_root 196 = .ok (.bipush 32, 2) := dk_get daX16_root 114 (r := (196, .bipush 32, 2)) rfl
theorem dX16_root_198 : decode cX16_root 198 = .ok (.if_icmp .ge 23, 3) := dk_get daX16_root 115 (r := (198, .if_icmp .ge 23, 3)) rfl
theorem dX16_root_201 : decode cX16_root 201 = .ok (.aload_n 0, 1) := dk_get daX16_root 116 (r := (201, .aload_n 0, 1)) rfl
theorem dX16_root_202 : decode cX16_root 202 = .ok (.getfield 394, 3) := dk_get daX16_root 117 (r := (202, .getfield 394, 3)) rfl
theorem dX16_root_205 : decode cX16_root 205 = .ok (.iload 4, 2) := dk_get daX16_root 118 (r := (205, .iload 4, 2)) rfl
theorem dX16_root_207 : decode cX16_root 207 = .ok (.aload_n 0, 1) := dk_get daX16_root 119 (r := (207, .aload_n 0, 1)) rfl
theorem dX16_root_208 : decode cX16_root 208 = .ok (.getfield 397, 3) := dk_get daX16_root 120 (r := (208, .getfield 397, 3)) rfl
theorem dX16_root_211 : decode cX16_root 211 = .ok (.iload 4, 2) := dk_get daX16_root 121 (r := (211, .iload 4, 2)) rfl
theorem dX16_root_213 : decode cX16_root 213 = .ok (.baload, 1) := dk_get daX16_root 122 (r := (213, .baload, 1)) rfl
theorem dX16_root_214 : decode cX16_root 214 = .ok (.bastore, 1) := dk_get daX16_root 123 (r := (214, .bastore, 1)) rfl
theorem dX16_root_215 : decode cX16_root 215 = .ok (.iinc 4 1, 3) := dk_get daX16_root 124 (r := (215, .iinc 4 1, 3)) rfl
theorem dX16_root_218 : decode cX16_root 218 = .ok (.goto (-24), 3) := dk_get daX16_root 125 (r := (218, .goto (-24), 3)) rfl
theorem dX16_root_221 : decode cX16_root 221 = .ok (.return_, 1) := dk_get daX16_root 126 (r := (221, .return_, 1)) rfl
abbrev mX16_alike : ks_M := (RX16, cX16_alike, 6, (some .boolean), "alike")
def drX16_alike : List (Nat × Instr × Nat) := [(0, .iconst 0, 1), (1, .istore 5, 2), (3, .iload 5, 2), (5, .iload 4, 2), (7, .if_icmp .ge 26, 3), (10, .aload_n 0, 1), (11, .iload_n 1, 1), (12, .iload 5, 2), (14, .iadd, 1), (15, .baload, 1), (16, .aload_n 2, 1), (17, .iload_n 3, 1), (18, .iload 5, 2), (20, .iadd, 1), (21, .baload, 1), (22, .if_icmp .eq 5, 3), (25, .iconst 0, 1), (26, .ireturn, 1), (27, .iinc 5 1, 3), (30, .goto (-27), 3), (33, .iconst 1, 1), (34, .ireturn, 1)]
set_option maxRecDepth 100000 in
theorem daX16_alike : dk_all cX16_alike drX16_alike = true := by decide +kernel
theorem dX16_alike_0 : decode cX16_alike 0 = .ok (.iconst 0, 1) := dk_get daX16_alike 0 (r := (0, .iconst 0, 1)) rfl
theorem dX16_alike_1 : decode cX16_alike 1 = .ok (.istore 5, 2) := dk_get daX16_alike 1 (r := (1, .istore 5, 2)) rfl
theorem dX16_alike_3 : decode cX16_alike 3 = .ok (.iload 5, 2) := dk_get daX16_alike 2 (r := (3, .iload 5, 2)) rfl
theorem dX16_alike_5 : decode cX16_alike 5 = .ok (.iload 4, 2) := dk_get daX16_alike 3 (r := (5, .iload 4, 2)) rfl
theorem dX16_alike_7 : decode cX16_alike 7 = .ok (.if_icmp .ge 26, 3) := dk_get daX16_alike 4 (r := (7, .if_icmp .ge 26, 3)) rfl
theorem dX16_alike_10 : decode cX16_alike 10 = .ok (.aload_n 0, 1) := dk_get daX16_alike 5 (r := (10, .aload_n 0, 1)) rfl
theorem dX16_alike_11 : decode cX16_alike 11 = .ok (.iload_n 1, 1) := dk_get daX16_alike 6 (r := (11, .iload_n 1, 1)) rfl
theorem dX16_alike_12 : decode cX16_alike 12 = .ok (.iload 5, 2) := dk_get daX16_alike 7 (r := (12, .iload 5, 2)) rfl
theorem dX16_alike_14 : decode cX16_alike 14 = .ok (.iadd, 1) := dk_get daX16_alike 8 (r := (14, .iadd, 1)) rfl
theorem dX16_alike_15 : decode cX16_alike 15 = .ok (.baload, 1) := dk_get daX16_alike 9 (r := (15, .baload, 1)) rfl
theorem dX16_alike_16 : decode cX16_alike 16 = .ok (.aload_n 2, 1) := dk_get daX16_alike 10 (r := (16, .aload_n 2, 1)) rfl
theorem dX16_alike_17 : decode cX16_alike 17 = .ok (.iload_n 3, 1) := dk_get daX16_alike 11 (r := (17, .iload_n 3, 1)) rfl
theorem dX16_alike_18 : decode cX16_alike 18 = .ok (.iload 5, 2) := dk_get daX16_alike 12 (r := (18, .iload 5, 2)) rfl
theorem dX16_alike_20 : decode cX16_alike 20 = .ok (.iadd, 1) := dk_get daX16_alike 13 (r := (20, .iadd, 1)) rfl
theorem dX16_alike_21 : decode cX16_alike 21 = .ok (.baload, 1) := dk_get daX16_alike 14 (r := (21, .baload, 1)) rfl
theorem dX16_alike_22 : decode cX16_alike 22 = .ok (.if_icmp .eq 5, 3) := dk_get daX16_alike 15 (r := (22, .if_icmp .eq 5, 3)) rfl
theorem dX16_alike_25 : decode cX16_alike 25 = .ok (.iconst 0, 1) := dk_get daX16_alike 16 (r := (25, .iconst 0, 1)) rfl
theorem dX16_alike_26 : decode cX16_alike 26 = .ok (.ireturn, 1) := dk_get daX16_alike 17 (r := (26, .ireturn, 1)) rfl
theorem dX16_alike_27 : decode cX16_alike 27 = .ok (.iinc 5 1, 3) := dk_get daX16_alike 18 (r := (27, .iinc 5 1, 3)) rfl
theorem dX16_alike_30 : decode cX16_alike 30 = .ok (.goto (-27), 3) := dk_get daX16_alike 19 (r := (30, .goto (-27), 3)) rfl
theorem dX16_alike_33 : decode cX16_alike 33 = .ok (.iconst 1, 1) := dk_get daX16_alike 20 (r := (33, .iconst 1, 1)) rfl
theorem dX16_alike_34 : decode cX16_alike 34 = .ok (.ireturn, 1) := dk_get daX16_alike 21 (r := (34, .ireturn, 1)) rfl
abbrev mX16_isNone : ks_M := (RX16, cX16_isNone, 4, (some .boolean), "isNone")
def drX16_isNone : List (Nat × Instr × Nat) := [(0, .iconst 0, 1), (1, .istore_n 3, 1), (2, .iload_n 3, 1), (3, .bipush 32, 2), (5, .if_icmp .ge 22, 3), (8, .aload_n 1, 1), (9, .getfield 275, 3), (12, .iload_n 2, 1), (13, .iload_n 3, 1), (14, .iadd, 1), (15, .baload, 1), (16, .ifCond .eq 5, 3), (19, .iconst 0, 1), (20, .ireturn, 1), (21, .iinc 3 1, 3), (24, .goto (-22), 3), (27, .aload_n 0, 1), (28, .aload_n 1, 1), (29, .getfield 275, 3), (32, .iload_n 2, 1), (33, .bipush 32, 2), (35, .iadd, 1), (36, .iconst 4, 1), (37, .invokevirtual 267, 3), (40, .ldc2_w 380, 3), (43, .lcmp, 1), (44, .ifCond .ne 7, 3), (47, .iconst 1, 1), (48, .goto 4, 3), (51, .iconst 0, 1), (52, .ireturn, 1)]
set_option maxRecDepth 100000 in
theorem daX16_isNone : dk_all cX16_isNone drX16_isNone = true := by decide +kernel
theorem dX16_isNone_0 : decode cX16_isNone 0 = .ok (.iconst 0, 1) := dk_get daX16_isNone 0 (r := (0, .iconst 0, 1)) rfl
theorem dX16_isNone_1 : decode cX16_isNone 1 = .ok (.istore_n 3, 1) := dk_get daX16_isNone 1 (r := (1, .istore_n 3, 1)) rfl
theorem dX16_isNone_2 : decode cX16_isNone 2 = .ok (.iload_n 3, 1) := dk_get daX16_isNone 2 (r := (2, .iload_n 3, 1)) rfl
theorem dX16_isNone_3 : decode cX16_isNone 3 = .ok (.bipush 32, 2) := dk_get daX16_isNone 3 (r := (3, .bipush 32, 2)) rfl
theorem dX16_isNone_5 : decode cX16_isNone 5 = .ok (.if_icmp .ge 22, 3) := dk_get daX16_isNone 4 (r := (5, .if_icmp .ge 22, 3)) rfl
theorem dX16_isNone_8 : decode cX16_isNone 8 = .ok (.aload_n 1, 1) := dk_get daX16_isNone 5 (r := (8, .aload_n 1, 1)) rfl
theorem dX16_isNone_9 : decode cX16_isNone 9 = .ok (.getfield 275, 3) := dk_get daX16_isNone 6 (r := (9, .getfield 275, 3)) rfl
theorem dX16_isNone_12 : decode cX16_isNone 12 = .ok (.iload_n 2, 1) := dk_get daX16_isNone 7 (r := (12, .iload_n 2, 1)) rfl
theorem dX16_isNone_13 : decode cX16_isNone 13 = .ok (.iload_n 3, 1) := dk_get daX16_isNone 8 (r := (13, .iload_n 3, 1)) rfl
theorem dX16_isNone_14 : decode cX16_isNone 14 = .ok (.iadd, 1) := dk_get daX16_isNone 9 (r := (14, .iadd, 1)) rfl
theorem dX16_isNone_15 : decode cX16_isNone 15 = .ok (.baload, 1) := dk_get daX16_isNone 10 (r := (15, .baload, 1)) rfl
theorem dX16_isNone_16 : decode cX16_isNone 16 = .ok (.ifCond .eq 5, 3) := dk_get daX16_isNone 11 (r := (16, .ifCond .eq 5, 3)) rfl
theorem dX16_isNone_19 : decode cX16_isNone 19 = .ok (.iconst 0, 1) := dk_get daX16_isNone 12 (r := (19, .iconst 0, 1)) rfl
theorem dX16_isNone_20 : decode cX16_isNone 20 = .ok (.ireturn, 1) := dk_get daX16_isNone 13 (r := (20, .ireturn, 1)) rfl
theorem dX16_isNone_21 : decode cX16_isNone 21 = .ok (.iinc 3 1, 3) := dk_get daX16_isNone 14 (r := (21, .iinc 3 1, 3)) rfl
theorem dX16_isNone_24 : decode cX16_isNone 24 = .ok (.goto (-22), 3) := dk_get daX16_isNone 15 (r := (24, .goto (-22), 3)) rfl
theorem dX16_isNone_27 : decode cX16_isNone 27 = .ok (.aload_n 0, 1) := dk_get daX16_isNone 16 (r := (27, .aload_n 0, 1)) rfl
theorem dX16_isNone_28 : decode cX16_isNone 28 = .ok (.aload_n 1, 1) := dk_get daX16_isNone 17 (r := (28, .aload_n 1, 1)) rfl
theorem dX16_isNone_29 : decode cX16_isNone 29 = .ok (.getfield 275, 3) := dk_get daX16_isNone 18 (r := (29, .getfield 275, 3)) rfl
theorem dX16_isNone_32 : decode cX16_isNone 32 = .ok (.iload_n 2, 1) := dk_get daX16_isNone 19 (r := (32, .iload_n 2, 1)) rfl
theorem dX16_isNone_33 : decode cX16_isNone 33 = .ok (.bipush 32, 2) := dk_get daX16_isNone 20 (r := (33, .bipush 32, 2)) rfl
theorem dX16_isNone_35 : decode cX16_isNone 35 = .ok (.iadd, 1) := dk_get daX16_isNone 21 (r := (35, .iadd, 1)) rfl
theorem dX16_isNone_36 : decode cX16_isNone 36 = .ok (.iconst 4, 1) := dk_get daX16_isNone 22 (r := (36, .iconst 4, 1)) rfl
theorem dX16_isNone_37 : decode cX16_isNone 37 = .ok (.invokevirtual 267, 3) := dk_get daX16_isNone 23 (r := (37, .invokevirtual 267, 3)) rfl
theorem dX16_isNone_40 : decode cX16_isNone 40 = .ok (.ldc2_w 380, 3) := dk_get daX16_isNone 24 (r := (40, .ldc2_w 380, 3)) rfl
theorem dX16_isNone_43 : decode cX16_isNone 43 = .ok (.lcmp, 1) := dk_get daX16_isNone 25 (r := (43, .lcmp, 1)) rfl
theorem dX16_isNone_44 : decode cX16_isNone 44 = .ok (.ifCond .ne 7, 3) := dk_get daX16_isNone 26 (r := (44, .ifCond .ne 7, 3)) rfl
theorem dX16_isNone_47 : decode cX16_isNone 47 = .ok (.iconst 1, 1) := dk_get daX16_isNone 27 (r := (47, .iconst 1, 1)) rfl
theorem dX16_isNone_48 : decode cX16_isNone 48 = .ok (.goto 4, 3) := dk_get daX16_isNone 28 (r := (48, .goto 4, 3)) rfl
theorem dX16_isNone_51 : decode cX16_isNone 51 = .ok (.iconst 0, 1) := dk_get daX16_isNone 29 (r := (51, .iconst 0, 1)) rfl
theorem dX16_isNone_52 : decode cX16_isNone 52 = .ok (.ireturn, 1) := dk_get daX16_isNone 30 (r := (52, .ireturn, 1)) rfl
abbrev mX16_findBlock : ks_M := (RX16, cX16_findBlock, 4, (some .int), "findBlock")
def drX16_findBlock : List (Nat × Instr × Nat) := [(0, .iconst 0, 1), (1, .istore_n 3, 1), (2, .iload_n 3, 1), (3, .aload_n 0, 1), (4, .getfield 403, 3), (7, .if_icmp .ge 31, 3), (10, .aload_n 0, 1), (11, .getfield 347, 3), (14, .iload_n 3, 1), (15, .aaload, 1), (16, .getfield 406, 3), (19, .iconst 0, 1), (20, .aload_n 1, 1), (21, .iload_n 2, 1), (22, .bipush 32, 2), (24, .invokestatic 409, 3), (27, .ifCond .eq 5, 3), (30, .iload_n 3, 1), (31, .ireturn, 1), (32, .iinc 3 1, 3), (35, .goto (-33), 3), (38, .iconst (-1), 1), (39, .ireturn, 1)]
set_option maxRecDepth 100000 in
theorem daX16_findBlock : dk_all cX16_findBlock drX16_findBlock = true := by decide +kernel
theorem dX16_findBlock_0 : decode cX16_findBlock 0 = .ok (.iconst 0, 1) := dk_get daX16_findBlock 0 (r := (0, .iconst 0, 1)) rfl
theorem dX16_findBlock_1 : decode cX16_findBlock 1 = .ok (.istore_n 3, 1) := dk_get daX16_findBlock 1 (r := (1, .istore_n 3, 1)) rfl
theorem dX16_findBlock_2 : decode cX16_findBlock 2 = .ok (.iload_n 3, 1) := dk_get daX16_findBlock 2 (r := (2, .iload_n 3, 1)) rfl
theorem dX16_findBlock_3 : decode cX16_findBlock 3 = .ok (.aload_n 0, 1) := dk_get daX16_findBlock 3 (r := (3, .aload_n 0, 1)) rfl
theorem dX16_findBlock_4 : decode cX16_findBlock 4 = .ok (.getfield 403, 3) := dk_get daX16_findBlock 4 (r := (4, .getfield 403, 3)) rfl
theorem dX16_findBlock_7 : decode cX16_findBlock 7 = .ok (.if_icmp .ge 31, 3) := dk_get daX16_findBlock 5 (r := (7, .if_icmp .ge 31, 3)) rfl
theorem dX16_findBlock_10 : decode cX16_findBlock 10 = .ok (.aload_n 0, 1) := dk_get daX16_findBlock 6 (r := (10, .aload_n 0, 1)) rfl
theorem dX16_findBlock_11 : decode cX16_findBlock 11 = .ok (.getfield 347, 3) := dk_get daX16_findBlock 7 (r := (11, .getfield 347, 3)) rfl
theorem dX16_findBlock_14 : decode cX16_findBlock 14 = .ok (.iload_n 3, 1) := dk_get daX16_findBlock 8 (r := (14, .iload_n 3, 1)) rfl
theorem dX16_findBlock_15 : decode cX16_findBlock 15 = .ok (.aaload, 1) := dk_get daX16_findBlock 9 (r := (15, .aaload, 1)) rfl
theorem dX16_findBlock_16 : decode cX16_findBlock 16 = .ok (.getfield 406, 3) := dk_get daX16_findBlock 10 (r := (16, .getfield 406, 3)) rfl
theorem dX16_findBlock_19 : decode cX16_findBlock 19 = .ok (.iconst 0, 1) := dk_get daX16_findBlock 11 (r := (19, .iconst 0, 1)) rfl
theorem dX16_findBlock_20 : decode cX16_findBlock 20 = .ok (.aload_n 1, 1) := dk_get daX16_findBlock 12 (r := (20, .aload_n 1, 1)) rfl
theorem dX16_findBlock_21 : decode cX16_findBlock 21 = .ok (.iload_n 2, 1) := dk_get daX16_findBlock 13 (r := (21, .iload_n 2, 1)) rfl
theorem dX16_findBlock_22 : decode cX16_findBlock 22 = .ok (.bipush 32, 2) := dk_get daX16_findBlock 14 (r := (22, .bipush 32, 2)) rfl
theorem dX16_findBlock_24 : decode cX16_findBlock 24 = .ok (.invokestatic 409, 3) := dk_get daX16_findBlock 15 (r := (24, .invokestatic 409, 3)) rfl
theorem dX16_findBlock_27 : decode cX16_findBlock 27 = .ok (.ifCond .eq 5, 3) := dk_get daX16_findBlock 16 (r := (27, .ifCond .eq 5, 3)) rfl
theorem dX16_findBlock_30 : decode cX16_findBlock 30 = .ok (.iload_n 3, 1) := dk_get daX16_findBlock 17 (r := (30, .iload_n 3, 1)) rfl
theorem dX16_findBlock_31 : decode cX16_findBlock 31 = .ok (.ireturn, 1) := dk_get daX16_findBlock 18 (r := (31, .ireturn, 1)) rfl
theorem dX16_findBlock_32 : decode cX16_findBlock 32 = .ok (.iinc 3 1, 3) := dk_get daX16_findBlock 19 (r := (32, .iinc 3 1, 3)) rfl
theorem dX16_findBlock_35 : decode cX16_findBlock 35 = .ok (.goto (-33), 3) := dk_get daX16_findBlock 20 (r := (35, .goto (-33), 3)) rfl
theorem dX16_findBlock_38 : decode cX16_findBlock 38 = .ok (.iconst (-1), 1) := dk_get daX16_findBlock 21 (r := (38, .iconst (-1), 1)) rfl
theorem dX16_findBlock_39 : decode cX16_findBlock 39 = .ok (.ireturn, 1) := dk_get daX16_findBlock 22 (r := (39, .ireturn, 1)) rfl
abbrev mX16_alone : ks_M := (RX16, cX16_alone, 10, (some .int), "alone")
def drX16_alone : List (Nat × Instr × Nat) := [(0, .aload_n 1, 1), (1, .getfield 297, 3), (4, .iload_n 2, 1), (5, .iaload, 1), (6, .iconst 1, 1), (7, .if_icmp .ne 21, 3), (10, .aload_n 0, 1), (11, .aload_n 1, 1), (12, .aload_n 1, 1), (13, .getfield 300, 3), (16, .iload_n 2, 1), (17, .iaload, 1), (18, .invokevirtual 413, 3), (21, .ifCond .eq 7, 3), (24, .iconst 1, 1), (25, .goto 4, 3), (28, .iconst 0, 1), (29, .istore_n 3, 1), (30, .iload_n 3, 1), (31, .iload_n 2, 1), (32, .ifCond .ne 7, 3), (35, .iconst 1, 1), (36, .goto 4, 3), (39, .iconst 0, 1), (40, .if_icmp .eq 6, 3), (43, .bipush 7, 2), (45, .ireturn, 1), (46, .aload_n 1, 1), (47, .getfield 297, 3), (50, .iload_n 2, 1), (51, .iaload, 1), (52, .ifCond .eq 12, 3), (55, .aload_n 1, 1), (56, .getfield 307, 3), (59, .iload_n 2, 1), (60, .iaload, 1), (61, .ifCond .ne 6, 3), (64, .bipush 8, 2), (66, .ireturn, 1), (67, .lconst 0, 1), (68, .lstore 4, 2), (70, .aload_n 1, 1), (71, .getfield 310, 3), (74, .iload_n 2, 1), (75, .iaload, 1), (76, .istore 6, 2), (78, .iconst 0, 1), (79, .istore 7, 2), (81, .iload 7, 2), (83, .aload_n 1, 1), (84, .getfield 307, 3), (87, .iload_n 2, 1), (88, .iaload, 1), (89, .if_icmp .ge 76, 3), (92, .aload_n 0, 1), (93, .aload_n 1, 1), (94, .getfield 275, 3), (97, .iload 6, 2), (99, .bipush 8, 2), (101, .invokevirtual 267, 3), (104, .lstore 8, 2), (106, .lload 8, 2), (108, .lconst 0, 1), (109, .lcmp, 1), (110, .ifCond .lt 12, 3), (113, .lload 8, 2), (115, .ldc2_w 417, 3), (118, .lcmp, 1), (119, .ifCond .le 6, 3), (122, .bipush 8, 2), (124, .ireturn, 1), (125, .lload 4, 2), (127, .lload 8, 2), (129, .ladd, 1), (130, .lstore 4, 2), (132, .lload 4, 2), (134, .ldc2_w 417, 3), (137, .lcmp, 1), (138, .ifCond .le 6, 3), (141, .bipush 8, 2), (143, .ireturn, 1), (144, .aload_n 0, 1), (145, .aload_n 1, 1), (146, .getfield 275, 3), (149, .iload 6, 2), (151, .bipush 8, 2), (153, .iadd, 1), (154, .invokevirtual 328, 3), (157, .istore 6, 2), (159, .iinc 7 1, 3), (162, .goto (-81), 3), (165, .iconst 0, 1), (166, .istore 7, 2), (168, .iload 7, 2), (170, .aload_n 1, 1), (171, .getfield 297, 3), (174, .iload_n 2, 1), (175, .iaload, 1), (176, .if_icmp .ge 116, 3), (179, .aload_n 0, 1), (180, .aload_n 1, 1), (181, .iload_n 2, 1), (182, .iload 7, 2), (184, .invokevirtual 419, 3), (187, .istore 8, 2), (189, .aload_n 0, 1), (190, .aload_n 1, 1), (191, .getfield 275, 3), (194, .iload 8, 2), (196, .bipush 36, 2), (198, .iadd, 1), (199, .invokevirtual 328, 3), (202, .pop, 1), (203, .iload_n 2, 1), (204, .ifCond .ne 20, 3), (207, .aload_n 0, 1), (208, .getfield 322, 3), (211, .iconst 2, 1), (212, .if_icmp .lt 26, 3), (215, .aload_n 0, 1), (216, .getfield 322, 3), (219, .bipush 100, 2), (221, .if_icmp .gt 17, 3), (224, .iload_n 2, 1), (225, .ifCond .le 16, 3), (228, .aload_n 0, 1), (229, .aload_n 1, 1), (230, .iload 8, 2), (232, .invokevirtual 413, 3), (235, .ifCond .eq 6, 3), (238, .bipush 8, 2), (240, .ireturn, 1), (241, .iconst 0, 1), (242, .istore 9, 2), (244, .iload 9, 2), (246, .iload 7, 2), (248, .if_icmp .ge 38, 3), (251, .aload_n 1, 1), (252, .getfield 275, 3), (255, .aload_n 0, 1), (256, .aload_n 1, 1), (257, .iload_n 2, 1), (258, .iload 9, 2), (260, .invokevirtual 419, 3), (263, .aload_n 1, 1), (264, .getfield 275, 3), (267, .iload 8, 2), (269, .bipush 36, 2), (271, .invokestatic 409, 3), (274, .ifCond .eq 6, 3), (277, .bipush 8, 2), (279, .ireturn, 1), (280, .iinc 9 1, 3), (283, .goto (-39), 3), (286, .iinc 7 1, 3), (289, .goto (-121), 3), (292, .iconst 0, 1), (293, .ireturn, 1)]
set_option maxRecDepth 100000 in
theorem daX16_alone : dk_all cX16_alone drX16_alone = true := by decide +kernel
theorem dX16_alone_0 : decode cX16_alone 0 = .ok (.aload_n 1, 1) := dk_get daX16_alone 0 (r := (0, .aload_n 1, 1)) rfl
theorem dX16_alone_1 : decode cX16_alone 1 = .ok (.getfield 297, 3) := dk_get daX16_alone 1 (r := (1, .getfield 297, 3)) rfl
theorem dX16_alone_4 : decode cX16_alone 4 = .ok (.iload_n 2, 1) := dk_get daX16_alone 2 (r := (4, .iload_n 2, 1)) rfl
theorem dX16_alone_5 : decode cX16_alone 5 = .ok (.iaload, 1) := dk_get daX16_alone 3 (r := (5, .iaload, 1)) rfl
theorem dX16_alone_6 : decode cX16_alone 6 = .ok (.iconst 1, 1) := dk_get daX16_alone 4 (r := (6, .iconst 1, 1)) rfl
theorem dX16_alone_7 : decode cX16_alone 7 = .ok (.if_icmp .ne 21, 3) := dk_get daX16_alone 5 (r := (7, .if_icmp .ne 21, 3)) rfl
theorem dX16_alone_10 : decode cX16_alone 10 = .ok (.aload_n 0, 1) := dk_get daX16_alone 6 (r := (10, .aload_n 0, 1)) rfl
theorem dX16_alone_11 : decode cX16_alone 11 = .ok (.aload_n 1, 1) := dk_get daX16_alone 7 (r := (11, .aload_n 1, 1)) rfl
theorem dX16_alone_12 : decode cX16_alone 12 = .ok (.aload_n 1, 1) := dk_get daX16_alone 8 (r := (12, .aload_n 1, 1)) rfl
theorem dX16_alone_13 : decode cX16_alone 13 = .ok (.getfield 300, 3) := dk_get daX16_alone 9 (r := (13, .getfield 300, 3)) rfl
theorem dX16_alone_16 : decode cX16_alone 16 = .ok (.iload_n 2, 1) := dk_get daX16_alone 10 (r := (16, .iload_n 2, 1)) rfl
theorem dX16_alone_17 : decode cX16_alone 17 = .ok (.iaload, 1) := dk_get daX16_alone 11 (r := (17, .iaload, 1)) rfl
theorem dX16_alone_18 : decode cX16_alone 18 = .ok (.invokevirtual 413, 3) := dk_get daX16_alone 12 (r := (18, .invokevirtual 413, 3)) rfl
theorem dX16_alone_21 : decode cX16_alone 21 = .ok (.ifCond .eq 7, 3) := dk_get daX16_alone 13 (r := (21, .ifCond .eq 7, 3)) rfl
theorem dX16_alone_24 : decode cX16_alone 24 = .ok (.iconst 1, 1) := dk_get daX16_alone 14 (r := (24, .iconst 1, 1)) rfl
theorem dX16_alone_25 : decode cX16_alone 25 = .ok (.goto 4, 3) := dk_get daX16_alone 15 (r := (25, .goto 4, 3)) rfl
theorem dX16_alone_28 : decode cX16_alone 28 = .ok (.iconst 0, 1) := dk_get daX16_alone 16 (r := (28, .iconst 0, 1)) rfl
theorem dX16_alone_29 : decode cX16_alone 29 = .ok (.istore_n 3, 1) := dk_get daX16_alone 17 (r := (29, .istore_n 3, 1)) rfl
theorem dX16_alone_30 : decode cX16_alone 30 = .ok (.iload_n 3, 1) := dk_get daX16_alone 18 (r := (30, .iload_n 3, 1)) rfl
theorem dX16_alone_31 : decode cX16_alone 31 = .ok (.iload_n 2, 1) := dk_get daX16_alone 19 (r := (31, .iload_n 2, 1)) rfl
theorem dX16_alone_32 : decode cX16_alone 32 = .ok (.ifCond .ne 7, 3) := dk_get daX16_alone 20 (r := (32, .ifCond .ne 7, 3)) rfl
theorem dX16_alone_35 : decode cX16_alone 35 = .ok (.iconst 1, 1) := dk_get daX16_alone 21 (r := (35, .iconst 1, 1)) rfl
theorem dX16_alone_36 : decode cX16_alone 36 = .ok (.goto 4, 3) := dk_get daX16_alone 22 (r := (36, .goto 4, 3)) rfl
theorem dX16_alone_39 : decode cX16_alone 39 = .ok (.iconst 0, 1) := dk_get daX16_alone 23 (r := (39, .iconst 0, 1)) rfl
theorem dX16_alone_40 : decode cX16_alone 40 = .ok (.if_icmp .eq 6, 3) := dk_get daX16_alone 24 (r := (40, .if_icmp .eq 6, 3)) rfl
theorem dX16_alone_43 : decode cX16_alone 43 = .ok (.bipush 7, 2) := dk_get daX16_alone 25 (r := (43, .bipush 7, 2)) rfl
theorem dX16_alone_45 : decode cX16_alone 45 = .ok (.ireturn, 1) := dk_get daX16_alone 26 (r := (45, .ireturn, 1)) rfl
theorem dX16_alone_46 : decode cX16_alone 46 = .ok (.aload_n 1, 1) := dk_get daX16_alone 27 (r := (46, .aload_n 1, 1)) rfl
theorem dX16_alone_47 : decode cX16_alone 47 = .ok (.getfield 297, 3) := dk_get daX16_alone 28 (r := (47, .getfield 297, 3)) rfl
theorem dX16_alone_50 : decode cX16_alone 50 = .ok (.iload_n 2, 1) := dk_get daX16_alone 29 (r := (50, .iload_n 2, 1)) rfl
theorem dX16_alone_51 : decode cX16_alone 51 = .ok (.iaload, 1) := dk_get daX16_alone 30 (r := (51, .iaload, 1)) rfl
theorem dX16_alone_52 : decode cX16_alone 52 = .ok (.ifCond .eq 12, 3) := dk_get daX16_alone 31 (r := (52, .ifCond .eq 12, 3)) rfl
theorem dX16_alone_55 : decode cX16_alone 55 = .ok (.aload_n 1, 1) := dk_get daX16_alone 32 (r := (55, .aload_n 1, 1)) rfl
theorem dX16_alone_56 : decode cX16_alone 56 = .ok (.getfield 307, 3) := dk_get daX16_alone 33 (r := (56, .getfield 307, 3)) rfl
theorem dX16_alone_59 : decode cX16_alone 59 = .ok (.iload_n 2, 1) := dk_get daX16_alone 34 (r := (59, .iload_n 2, 1)) rfl
theorem dX16_alone_60 : decode cX16_alone 60 = .ok (.iaload, 1) := dk_get daX16_alone 35 (r := (60, .iaload, 1)) rfl
theorem dX16_alone_61 : decode cX16_alone 61 = .ok (.ifCond .ne 6, 3) := dk_get daX16_alone 36 (r := (61, .ifCond .ne 6, 3)) rfl
theorem dX16_alone_64 : decode cX16_alone 64 = .ok (.bipush 8, 2) := dk_get daX16_alone 37 (r := (64, .bipush 8, 2)) rfl
theorem dX16_alone_66 : decode cX16_alone 66 = .ok (.ireturn, 1) := dk_get daX16_alone 38 (r := (66, .ireturn, 1)) rfl
theorem dX16_alone_67 : decode cX16_alone 67 = .ok (.lconst 0, 1) := dk_get daX16_alone 39 (r := (67, .lconst 0, 1)) rfl
theorem dX16_alone_68 : decode cX16_alone 68 = .ok (.lstore 4, 2) := dk_get daX16_alone 40 (r := (68, .lstore 4, 2)) rfl
theorem dX16_alone_70 : decode cX16_alone 70 = .ok (.aload_n 1, 1) := dk_get daX16_alone 41 (r := (70, .aload_n 1, 1)) rfl
theorem dX16_alone_71 : decode cX16_alone 71 = .ok (.getfield 310, 3) := dk_get daX16_alone 42 (r := (71, .getfield 310, 3)) rfl
theorem dX16_alone_74 : decode cX16_alone 74 = .ok (.iload_n 2, 1) := dk_get daX16_alone 43 (r := (74, .iload_n 2, 1)) rfl
theorem dX16_alone_75 : decode cX16_alone 75 = .ok (.iaload, 1) := dk_get daX16_alone 44 (r := (75, .iaload, 1)) rfl
theorem dX16_alone_76 : decode cX16_alone 76 = .ok (.istore 6, 2) := dk_get daX16_alone 45 (r := (76, .istore 6, 2)) rfl
theorem dX16_alone_78 : decode cX16_alone 78 = .ok (.iconst 0, 1) := dk_get daX16_alone 46 (r := (78, .iconst 0, 1)) rfl
theorem dX16_alone_79 : decode cX16_alone 79 = .ok (.istore 7, 2) := dk_get daX16_alone 47 (r := (79, .istore 7, 2)) rfl
theorem dX16_alone_81 : decode cX16_alone 81 = .ok (.iload 7, 2) := dk_get daX16_alone 48 (r := (81, .iload 7, 2)) rfl
theorem dX16_alone_83 : decode cX16_alone 83 = .ok (.aload_n 1, 1) := dk_get daX16_alone 49 (r := (83, .aload_n 1, 1)) rfl
theorem dX16_alone_84 : decode cX16_alone 84 = .ok (.getfield 307, 3) := dk_get daX16_alone 50 (r := (84, .getfield 307, 3)) rfl
theorem dX16_alone_87 : decode cX16_alone 87 = .ok (.iload_n 2, 1) := dk_get daX16_alone 51 (r := (87, .iload_n 2, 1)) rfl
theorem dX16_alone_88 : decode cX16_alone 88 = .ok (.iaload, 1) := dk_get daX16_alone 52 (r := (88, .iaload, 1)) rfl
theorem dX16_alone_89 : decode cX16_alone 89 = .ok (.if_icmp .ge 76, 3) := dk_get daX16_alone 53 (r := (89, .if_icmp .ge 76, 3)) rfl
theorem dX16_alone_92 : decode cX16_alone 92 = .ok (.aload_n 0, 1) := dk_get daX16_alone 54 (r := (92, .aload_n 0, 1)) rfl
theorem dX16_alone_93 : decode cX16_alone 93 = .ok (.aload_n 1, 1) := dk_get daX16_alone 55 (r := (93, .aload_n 1, 1)) rfl
theorem dX16_alone_94 : decode cX16_alone 94 = .ok (.getfield 275, 3) := dk_get daX16_alone 56 (r := (94, .getfield 275, 3)) rfl
theorem dX16_alone_97 : decode cX16_alone 97 = .ok (.iload 6, 2) := dk_get daX16_alone 57 (r := (97, .iload 6, 2)) rfl
theorem dX16_alone_99 : decode cX16_alone 99 = .ok (.bipush 8, 2) := dk_get daX16_alone 58 (r := (99, .bipush 8, 2)) rfl
theorem dX16_alone_101 : decode cX16_alone 101 = .ok (.invokevirtual 267, 3) := dk_get daX16_alone 59 (r := (101, .invokevirtual 267, 3)) rfl
theorem dX16_alone_104 : decode cX16_alone 104 = .ok (.lstore 8, 2) := dk_get daX16_alone 60 (r := (104, .lstore 8, 2)) rfl
theorem dX16_alone_106 : decode cX16_alone 106 = .ok (.lload 8, 2) := dk_get daX16_alone 61 (r := (106, .lload 8, 2)) rfl
theorem dX16_alone_108 : decode cX16_alone 108 = .ok (.lconst 0, 1) := dk_get daX16_alone 62 (r := (108, .lconst 0, 1)) rfl
theorem dX16_alone_109 : decode cX16_alone 109 = .ok (.lcmp, 1) := dk_get daX16_alone 63 (r := (109, .lcmp, 1)) rfl
theorem dX16_alone_110 : decode cX16_alone 110 = .ok (.ifCond .lt 12, 3) := dk_get daX16_alone 64 (r := (110, .ifCond .lt 12, 3)) rfl
theorem dX16_alone_113 : decode cX16_alone 113 = .ok (.lload 8, 2) := dk_get daX16_alone 65 (r := (113, .lload 8, 2)) rfl
theorem dX16_alone_115 : decode cX16_alone 115 = .ok (.ldc2_w 417, 3) := dk_get daX16_alone 66 (r := (115, .ldc2_w 417, 3)) rfl
theorem dX16_alone_118 : decode cX16_alone 118 = .ok (.lcmp, 1) := dk_get daX16_alone 67 (r := (118, .lcmp, 1)) rfl
theorem dX16_alone_119 : decode cX16_alone 119 = .ok (.ifCond .le 6, 3) := dk_get daX16_alone 68 (r := (119, .ifCond .le 6, 3)) rfl
theorem dX16_alone_122 : decode cX16_alone 122 = .ok (.bipush 8, 2) := dk_get daX16_alone 69 (r := (122, .bipush 8, 2)) rfl
theorem dX16_alone_124 : decode cX16_alone 124 = .ok (.ireturn, 1) := dk_get daX16_alone 70 (r := (124, .ireturn, 1)) rfl
theorem dX16_alone_125 : decode cX16_alone 125 = .ok (.lload 4, 2) := dk_get daX16_alone 71 (r := (125, .lload 4, 2)) rfl
theorem dX16_alone_127 : decode cX16_alone 127 = .ok (.lload 8, 2) := dk_get daX16_alone 72 (r := (127, .lload 8, 2)) rfl
theorem dX16_alone_129 : decode cX16_alone 129 = .ok (.ladd, 1) := dk_get daX16_alone 73 (r := (129, .ladd, 1)) rfl
theorem dX16_alone_130 : decode cX16_alone 130 = .ok (.lstore 4, 2) := dk_get daX16_alone 74 (r := (130, .lstore 4, 2)) rfl
theorem dX16_alone_132 : decode cX16_alone 132 = .ok (.lload 4, 2) := dk_get daX16_alone 75 (r := (132, .lload 4, 2)) rfl
theorem dX16_alone_134 : decode cX16_alone 134 = .ok (.ldc2_w 417, 3) := dk_get daX16_alone 76 (r := (134, .ldc2_w 417, 3)) rfl
theorem dX16_alone_137 : decode cX16_alone 137 = .ok (.lcmp, 1) := dk_get daX16_alone 77 (r := (137, .lcmp, 1)) rfl
theorem dX16_alone_138 : decode cX16_alone 138 = .ok (.ifCond .le 6, 3) := dk_get daX16_alone 78 (r := (138, .ifCond .le 6, 3)) rfl
theorem dX16_alone_141 : decode cX16_alone 141 = .ok (.bipush 8, 2) := dk_get daX16_alone 79 (r := (141, .bipush 8, 2)) rfl
theorem dX16_alone_143 : decode cX16_alone 143 = .ok (.ireturn, 1) := dk_get daX16_alone 80 (r := (143, .ireturn, 1)) rfl
theorem dX16_alone_144 : decode cX16_alone 144 = .ok (.aload_n 0, 1) := dk_get daX16_alone 81 (r := (144, .aload_n 0, 1)) rfl
theorem dX16_alone_145 : decode cX16_alone 145 = .ok (.aload_n 1, 1) := dk_get daX16_alone 82 (r := (145, .aload_n 1, 1)) rfl
theorem dX16_alone_146 : decode cX16_alone 146 = .ok (.getfield 275, 3) := dk_get daX16_alone 83 (r := (146, .getfield 275, 3)) rfl
theorem dX16_alone_149 : decode cX16_alone 149 = .ok (.iload 6, 2) := dk_get daX16_alone 84 (r := (149, .iload 6, 2)) rfl
theorem dX16_alone_151 : decode cX16_alone 151 = .ok (.bipush 8, 2) := dk_get daX16_alone 85 (r := (151, .bipush 8, 2)) rfl
theorem dX16_alone_153 : decode cX16_alone 153 = .ok (.iadd, 1) := dk_get daX16_alone 86 (r := (153, .iadd, 1)) rfl
theorem dX16_alone_154 : decode cX16_alone 154 = .ok (.invokevirtual 328, 3) := dk_get daX16_alone 87 (r := (154, .invokevirtual 328, 3)) rfl
theorem dX16_alone_157 : decode cX16_alone 157 = .ok (.istore 6, 2) := dk_get daX16_alone 88 (r := (157, .istore 6, 2)) rfl
theorem dX16_alone_159 : decode cX16_alone 159 = .ok (.iinc 7 1, 3) := dk_get daX16_alone 89 (r := (159, .iinc 7 1, 3)) rfl
theorem dX16_alone_162 : decode cX16_alone 162 = .ok (.goto (-81), 3) := dk_get daX16_alone 90 (r := (162, .goto (-81), 3)) rfl
theorem dX16_alone_165 : decode cX16_alone 165 = .ok (.iconst 0, 1) := dk_get daX16_alone 91 (r := (165, .iconst 0, 1)) rfl
theorem dX16_alone_166 : decode cX16_alone 166 = .ok (.istore 7, 2) := dk_get daX16_alone 92 (r := (166, .istore 7, 2)) rfl
theorem dX16_alone_168 : decode cX16_alone 168 = .ok (.iload 7, 2) := dk_get daX16_alone 93 (r := (168, .iload 7, 2)) rfl
theorem dX16_alone_170 : decode cX16_alone 170 = .ok (.aload_n 1, 1) := dk_get daX16_alone 94 (r := (170, .aload_n 1, 1)) rfl
theorem dX16_alone_171 : decode cX16_alone 171 = .ok (.getfield 297, 3) := dk_get daX16_alone 95 (r := (171, .getfield 297, 3)) rfl
theorem dX16_alone_174 : decode cX16_alone 174 = .ok (.iload_n 2, 1) := dk_get daX16_alone 96 (r := (174, .iload_n 2, 1)) rfl
theorem dX16_alone_175 : decode cX16_alone 175 = .ok (.iaload, 1) := dk_get daX16_alone 97 (r := (175, .iaload, 1)) rfl
theorem dX16_alone_176 : decode cX16_alone 176 = .ok (.if_icmp .ge 116, 3) := dk_get daX16_alone 98 (r := (176, .if_icmp .ge 116, 3)) rfl
theorem dX16_alone_179 : decode cX16_alone 179 = .ok (.aload_n 0, 1) := dk_get daX16_alone 99 (r := (179, .aload_n 0, 1)) rfl
theorem dX16_alone_180 : decode cX16_alone 180 = .ok (.aload_n 1, 1) := dk_get daX16_alone 100 (r := (180, .aload_n 1, 1)) rfl
theorem dX16_alone_181 : decode cX16_alone 181 = .ok (.iload_n 2, 1) := dk_get daX16_alone 101 (r := (181, .iload_n 2, 1)) rfl
theorem dX16_alone_182 : decode cX16_alone 182 = .ok (.iload 7, 2) := dk_get daX16_alone 102 (r := (182, .iload 7, 2)) rfl
theorem dX16_alone_184 : decode cX16_alone 184 = .ok (.invokevirtual 419, 3) := dk_get daX16_alone 103 (r := (184, .invokevirtual 419, 3)) rfl
theorem dX16_alone_187 : decode cX16_alone 187 = .ok (.istore 8, 2) := dk_get daX16_alone 104 (r := (187, .istore 8, 2)) rfl
theorem dX16_alone_189 : decode cX16_alone 189 = .ok (.aload_n 0, 1) := dk_get daX16_alone 105 (r := (189, .aload_n 0, 1)) rfl
theorem dX16_alone_190 : decode cX16_alone 190 = .ok (.aload_n 1, 1) := dk_get daX16_alone 106 (r := (190, .aload_n 1, 1)) rfl
theorem dX16_alone_191 : decode cX16_alone 191 = .ok (.getfield 275, 3) := dk_get daX16_alone 107 (r := (191, .getfield 275, 3)) rfl
theorem dX16_alone_194 : decode cX16_alone 194 = .ok (.iload 8, 2) := dk_get daX16_alone 108 (r := (194, .iload 8, 2)) rfl
theorem dX16_alone_196 : decode cX16_alone 196 = .ok (.bipush 36, 2) := dk_get daX16_alone 109 (r := (196, .bipush 36, 2)) rfl
theorem dX16_alone_198 : decode cX16_alone 198 = .ok (.iadd, 1) := dk_get daX16_alone 110 (r := (198, .iadd, 1)) rfl
theorem dX16_alone_199 : decode cX16_alone 199 = .ok (.invokevirtual 328, 3) := dk_get daX16_alone 111 (r := (199, .invokevirtual 328, 3)) rfl
theorem dX16_alone_202 : decode cX16_alone 202 = .ok (.pop, 1) := dk_get daX16_alone 112 (r := (202, .pop, 1)) rfl
theorem dX16_alone_203 : decode cX16_alone 203 = .ok (.iload_n 2, 1) := dk_get daX16_alone 113 (r := (203, .iload_n 2, 1)) rfl
theorem dX16_alone_204 : decode cX16_alone 204 = .ok (.ifCond .ne 20, 3) := dk_get daX16_alone 114 (r := (204, .ifCond .ne 20, 3)) rfl
theorem dX16_alone_207 : decode cX16_alone 207 = .ok (.aload_n 0, 1) := dk_get daX16_alone 115 (r := (207, .aload_n 0, 1)) rfl
theorem dX16_alone_208 : decode cX16_alone 208 = .ok (.getfield 322, 3) := dk_get daX16_alone 116 (r := (208, .getfield 322, 3)) rfl
theorem dX16_alone_211 : decode cX16_alone 211 = .ok (.iconst 2, 1) := dk_get daX16_alone 117 (r := (211, .iconst 2, 1)) rfl
theorem dX16_alone_212 : decode cX16_alone 212 = .ok (.if_icmp .lt 26, 3) := dk_get daX16_alone 118 (r := (212, .if_icmp .lt 26, 3)) rfl
theorem dX16_alone_215 : decode cX16_alone 215 = .ok (.aload_n 0, 1) := dk_get daX16_alone 119 (r := (215, .aload_n 0, 1)) rfl
theorem dX16_alone_216 : decode cX16_alone 216 = .ok (.getfield 322, 3) := dk_get daX16_alone 120 (r := (216, .getfield 322, 3)) rfl
theorem dX16_alone_219 : decode cX16_alone 219 = .ok (.bipush 100, 2) := dk_get daX16_alone 121 (r := (219, .bipush 100, 2)) rfl
theorem dX16_alone_221 : decode cX16_alone 221 = .ok (.if_icmp .gt 17, 3) := dk_get daX16_alone 122 (r := (221, .if_icmp .gt 17, 3)) rfl
theorem dX16_alone_224 : decode cX16_alone 224 = .ok (.iload_n 2, 1) := dk_get daX16_alone 123 (r := (224, .iload_n 2, 1)) rfl
theorem dX16_alone_225 : decode cX16_alone 225 = .ok (.ifCond .le 16, 3) := dk_get daX16_alone 124 (r := (225, .ifCond .le 16, 3)) rfl
theorem dX16_alone_228 : decode cX16_alone 228 = .ok (.aload_n 0, 1) := dk_get daX16_alone 125 (r := (228, .aload_n 0, 1)) rfl
theorem dX16_alone_229 : decode cX16_alone 229 = .ok (.aload_n 1, 1) := dk_get daX16_alone 126 (r := (229, .aload_n 1, 1)) rfl
theorem dX16_alone_230 : decode cX16_alone 230 = .ok (.iload 8, 2) := dk_get daX16_alone 127 (r := (230, .iload 8, 2)) rfl
theorem dX16_alone_232 : decode cX16_alone 232 = .ok (.invokevirtual 413, 3) := dk_get daX16_alone 128 (r := (232, .invokevirtual 413, 3)) rfl
theorem dX16_alone_235 : decode cX16_alone 235 = .ok (.ifCond .eq 6, 3) := dk_get daX16_alone 129 (r := (235, .ifCond .eq 6, 3)) rfl
theorem dX16_alone_238 : decode cX16_alone 238 = .ok (.bipush 8, 2) := dk_get daX16_alone 130 (r := (238, .bipush 8, 2)) rfl
theorem dX16_alone_240 : decode cX16_alone 240 = .ok (.ireturn, 1) := dk_get daX16_alone 131 (r := (240, .ireturn, 1)) rfl
theorem dX16_alone_241 : decode cX16_alone 241 = .ok (.iconst 0, 1) := dk_get daX16_alone 132 (r := (241, .iconst 0, 1)) rfl
theorem dX16_alone_242 : decode cX16_alone 242 = .ok (.istore 9, 2) := dk_get daX16_alone 133 (r := (242, .istore 9, 2)) rfl
theorem dX16_alone_244 : decode cX16_alone 244 = .ok (.iload 9, 2) := dk_get daX16_alone 134 (r := (244, .iload 9, 2)) rfl
theorem dX16_alone_246 : decode cX16_alone 246 = .ok (.iload 7, 2) := dk_get daX16_alone 135 (r := (246, .iload 7, 2)) rfl
theorem dX16_alone_248 : decode cX16_alone 248 = .ok (.if_icmp .ge 38, 3) := dk_get daX16_alone 136 (r := (248, .if_icmp .ge 38, 3)) rfl
theorem dX16_alone_251 : decode cX16_alone 251 = .ok (.aload_n 1, 1) := dk_get daX16_alone 137 (r := (251, .aload_n 1, 1)) rfl
theorem dX16_alone_252 : decode cX16_alone 252 = .ok (.getfield 275, 3) := dk_get daX16_alone 138 (r := (252, .getfield 275, 3)) rfl
theorem dX16_alone_255 : decode cX16_alone 255 = .ok (.aload_n 0, 1) := dk_get daX16_alone 139 (r := (255, .aload_n 0, 1)) rfl
theorem dX16_alone_256 : decode cX16_alone 256 = .ok (.aload_n 1, 1) := dk_get daX16_alone 140 (r := (256, .aload_n 1, 1)) rfl
theorem dX16_alone_257 : decode cX16_alone 257 = .ok (.iload_n 2, 1) := dk_get daX16_alone 141 (r := (257, .iload_n 2, 1)) rfl
theorem dX16_alone_258 : decode cX16_alone 258 = .ok (.iload 9, 2) := dk_get daX16_alone 142 (r := (258, .iload 9, 2)) rfl
theorem dX16_alone_260 : decode cX16_alone 260 = .ok (.invokevirtual 419, 3) := dk_get daX16_alone 143 (r := (260, .invokevirtual 419, 3)) rfl
theorem dX16_alone_263 : decode cX16_alone 263 = .ok (.aload_n 1, 1) := dk_get daX16_alone 144 (r := (263, .aload_n 1, 1)) rfl
theorem dX16_alone_264 : decode cX16_alone 264 = .ok (.getfield 275, 3) := dk_get daX16_alone 145 (r := (264, .getfield 275, 3)) rfl
theorem dX16_alone_267 : decode cX16_alone 267 = .ok (.iload 8, 2) := dk_get daX16_alone 146 (r := (267, .iload 8, 2)) rfl
theorem dX16_alone_269 : decode cX16_alone 269 = .ok (.bipush 36, 2) := dk_get daX16_alone 147 (r := (269, .bipush 36, 2)) rfl
theorem dX16_alone_271 : decode cX16_alone 271 = .ok (.invokestatic 409, 3) := dk_get daX16_alone 148 (r := (271, .invokestatic 409, 3)) rfl
theorem dX16_alone_274 : decode cX16_alone 274 = .ok (.ifCond .eq 6, 3) := dk_get daX16_alone 149 (r := (274, .ifCond .eq 6, 3)) rfl
theorem dX16_alone_277 : decode cX16_alone 277 = .ok (.bipush 8, 2) := dk_get daX16_alone 150 (r := (277, .bipush 8, 2)) rfl
theorem dX16_alone_279 : decode cX16_alone 279 = .ok (.ireturn, 1) := dk_get daX16_alone 151 (r := (279, .ireturn, 1)) rfl
theorem dX16_alone_280 : decode cX16_alone 280 = .ok (.iinc 9 1, 3) := dk_get daX16_alone 152 (r := (280, .iinc 9 1, 3)) rfl
theorem dX16_alone_283 : decode cX16_alone 283 = .ok (.goto (-39), 3) := dk_get daX16_alone 153 (r := (283, .goto (-39), 3)) rfl
theorem dX16_alone_286 : decode cX16_alone 286 = .ok (.iinc 7 1, 3) := dk_get daX16_alone 154 (r := (286, .iinc 7 1, 3)) rfl
theorem dX16_alone_289 : decode cX16_alone 289 = .ok (.goto (-121), 3) := dk_get daX16_alone 155 (r := (289, .goto (-121), 3)) rfl
theorem dX16_alone_292 : decode cX16_alone 292 = .ok (.iconst 0, 1) := dk_get daX16_alone 156 (r := (292, .iconst 0, 1)) rfl
theorem dX16_alone_293 : decode cX16_alone 293 = .ok (.ireturn, 1) := dk_get daX16_alone 157 (r := (293, .ireturn, 1)) rfl
set_option maxRecDepth 100000 in
theorem kx_32 : (Jvm.Cond.initialized "CoinJudgeModel$Parsed") ∈ lw_tbl := List.mem_append_right _ (List.mem_of_getElem? (i := 32) (by rfl))
set_option maxRecDepth 100000 in
theorem kx_1808 : (Jvm.Cond.instantiable "CoinJudgeModel$Parsed" (9 : Nat)) ∈ lw_tbl := List.mem_append_right _ (List.mem_of_getElem? (i := 1808) (by rfl))
set_option maxRecDepth 100000 in
theorem kx_1810 : (Jvm.Cond.instanceMethod ({ cls := "CoinJudgeModel$Parsed", name := "<init>", desc := "()V" } : Jvm.MethodName)) ∈ lw_tbl := List.mem_append_right _ (List.mem_of_getElem? (i := 1810) (by rfl))
set_option maxRecDepth 100000 in
theorem kx_1811 : (Jvm.Cond.code ({ cls := "CoinJudgeModel$Parsed", name := "<init>", desc := "()V" } : Jvm.MethodName) prog_16_method_1_code (1 : Nat) (Option.none : Option Jvm.ClassFile.FieldType)) ∈ lw_tbl := List.mem_append_right _ (List.mem_of_getElem? (i := 1811) (by rfl))
set_option maxRecDepth 100000 in
theorem kx_1812 : (Jvm.Cond.methodLink "CoinJudgeModel$Parsed" (1 : Nat) ({ cls := "java/lang/Object", name := "<init>", desc := "()V" } : Jvm.MethodName)) ∈ lw_tbl := List.mem_append_right _ (List.mem_of_getElem? (i := 1812) (by rfl))
set_option maxRecDepth 100000 in
theorem kx_1813 : (Jvm.Cond.fieldLinkNest "CoinJudgeModel" (275 : Nat) "CoinJudgeModel$Parsed" "bytes" "[B" "CoinJudgeModel") ∈ lw_tbl := List.mem_append_right _ (List.mem_of_getElem? (i := 1813) (by rfl))
set_option maxRecDepth 100000 in
theorem kx_1814 : (Jvm.Cond.fieldLinkNest "CoinJudgeModel" (288 : Nat) "CoinJudgeModel$Parsed" "count" "I" "CoinJudgeModel") ∈ lw_tbl := List.mem_append_right _ (List.mem_of_getElem? (i := 1814) (by rfl))
set_option maxRecDepth 100000 in
theorem kx_1815 : (Jvm.Cond.fieldLink "CoinJudgeModel$Parsed" (7 : Nat) "CoinJudgeModel$Parsed" "starts" "[I") ∈ lw_tbl := List.mem_append_right _ (List.mem_of_getElem? (i := 1815) (by rfl))
set_option maxRecDepth 100000 in
theorem kx_1816 : (Jvm.Cond.fieldLinkNest "CoinJudgeModel" (290 : Nat) "CoinJudgeModel$Parsed" "starts" "[I" "CoinJudgeModel") ∈ lw_tbl := List.mem_append_right _ (List.mem_of_getElem? (i := 1816) (by rfl))
set_option maxRecDepth 100000 in
theorem kx_1817 : (Jvm.Cond.fieldLink "CoinJudgeModel$Parsed" (13 : Nat) "CoinJudgeModel$Parsed" "ends" "[I") ∈ lw_tbl := List.mem_append_right _ (List.mem_of_getElem? (i := 1817) (by rfl))
set_option maxRecDepth 100000 in
theorem kx_1818 : (Jvm.Cond.fieldLinkNest "CoinJudgeModel" (313 : Nat) "CoinJudgeModel$Parsed" "ends" "[I" "CoinJudgeModel") ∈ lw_tbl := List.mem_append_right _ (List.mem_of_getElem? (i := 1818) (by rfl))
set_option maxRecDepth 100000 in
theorem kx_1819 : (Jvm.Cond.fieldLink "CoinJudgeModel$Parsed" (16 : Nat) "CoinJudgeModel$Parsed" "ins" "[I") ∈ lw_tbl := List.mem_append_right _ (List.mem_of_getElem? (i := 1819) (by rfl))
set_option maxRecDepth 100000 in
theorem kx_1820 : (Jvm.Cond.fieldLinkNest "CoinJudgeModel" (297 : Nat) "CoinJudgeModel$Parsed" "ins" "[I" "CoinJudgeModel") ∈ lw_tbl := List.mem_append_right _ (List.mem_of_getElem? (i := 1820) (by rfl))
set_option maxRecDepth 100000 in
theorem kx_1821 : (Jvm.Cond.fieldLink "CoinJudgeModel$Parsed" (19 : Nat) "CoinJudgeModel$Parsed" "outs" "[I") ∈ lw_tbl := List.mem_append_right _ (List.mem_of_getElem? (i := 1821) (by rfl))
set_option maxRecDepth 100000 in
theorem kx_1822 : (Jvm.Cond.fieldLinkNest "CoinJudgeModel" (307 : Nat) "CoinJudgeModel$Parsed" "outs" "[I" "CoinJudgeModel") ∈ lw_tbl := List.mem_append_right _ (List.mem_of_getElem? (i := 1822) (by rfl))
set_option maxRecDepth 100000 in
theorem kx_1823 : (Jvm.Cond.fieldLink "CoinJudgeModel$Parsed" (22 : Nat) "CoinJudgeModel$Parsed" "firstIn" "[I") ∈ lw_tbl := List.mem_append_right _ (List.mem_of_getElem? (i := 1823) (by rfl))
set_option maxRecDepth 100000 in
theorem kx_1824 : (Jvm.Cond.fieldLinkNest "CoinJudgeModel" (300 : Nat) "CoinJudgeModel$Parsed" "firstIn" "[I" "CoinJudgeModel") ∈ lw_tbl := List.mem_append_right _ (List.mem_of_getElem? (i := 1824) (by rfl))
set_option maxRecDepth 100000 in
theorem kx_1825 : (Jvm.Cond.fieldLink "CoinJudgeModel$Parsed" (25 : Nat) "CoinJudgeModel$Parsed" "firstOut" "[I") ∈ lw_tbl := List.mem_append_right _ (List.mem_of_getElem? (i := 1825) (by rfl))
set_option maxRecDepth 100000 in
theorem kx_1826 : (Jvm.Cond.fieldLinkNest "CoinJudgeModel" (310 : Nat) "CoinJudgeModel$Parsed" "firstOut" "[I" "CoinJudgeModel") ∈ lw_tbl := List.mem_append_right _ (List.mem_of_getElem? (i := 1826) (by rfl))
set_option maxRecDepth 100000 in
theorem kx_1827 : (Jvm.Cond.fieldLink "CoinJudgeModel$Parsed" (28 : Nat) "CoinJudgeModel$Parsed" "ids" "[B") ∈ lw_tbl := List.mem_append_right _ (List.mem_of_getElem? (i := 1827) (by rfl))
set_option maxRecDepth 100000 in
theorem kx_1828 : (Jvm.Cond.fieldLinkNest "CoinJudgeModel" (316 : Nat) "CoinJudgeModel$Parsed" "ids" "[B" "CoinJudgeModel") ∈ lw_tbl := List.mem_append_right _ (List.mem_of_getElem? (i := 1828) (by rfl))
set_option maxRecDepth 100000 in
theorem kx_1947 : (Jvm.Cond.methodLink "CoinJudgeModel" (376 : Nat) ({ cls := "CoinJudgeModel", name := "target", desc := "(I[I)Z" } : Jvm.MethodName)) ∈ lw_tbl := List.mem_append_right _ (List.mem_of_getElem? (i := 1947) (by rfl))
set_option maxRecDepth 100000 in
theorem kx_1948 : (Jvm.Cond.static ({ cls := "CoinJudgeModel", name := "target", desc := "(I[I)Z" } : Jvm.MethodName)) ∈ lw_tbl := List.mem_append_right _ (List.mem_of_getElem? (i := 1948) (by rfl))
set_option maxRecDepth 100000 in
theorem kx_1949 : (Jvm.Cond.code ({ cls := "CoinJudgeModel", name := "target", desc := "(I[I)Z" } : Jvm.MethodName) prog_14_method_32_code (8 : Nat) (Option.some Jvm.ClassFile.FieldType.boolean)) ∈ lw_tbl := List.mem_append_right _ (List.mem_of_getElem? (i := 1949) (by rfl))
set_option maxRecDepth 100000 in
theorem kx_1950 : (Jvm.Cond.constant "CoinJudgeModel" (332 : Nat) (8388607 : Int32)) ∈ lw_tbl := List.mem_append_right _ (List.mem_of_getElem? (i := 1950) (by rfl))
set_option maxRecDepth 100000 in
theorem kx_1951 : (Jvm.Cond.constant "CoinJudgeModel" (333 : Nat) (8388608 : Int32)) ∈ lw_tbl := List.mem_append_right _ (List.mem_of_getElem? (i := 1951) (by rfl))
set_option maxRecDepth 100000 in
theorem kx_1953 : (Jvm.Cond.constantLong "CoinJudgeModel" (380 : Nat) (4294967295 : Int64)) ∈ lw_tbl := List.mem_append_right _ (List.mem_of_getElem? (i := 1953) (by rfl))
set_option maxRecDepth 100000 in
theorem kx_1983 : (Jvm.Cond.constantLong "CoinJudgeModel" (271 : Nat) (253 : Int64)) ∈ lw_tbl := List.mem_append_right _ (List.mem_of_getElem? (i := 1983) (by rfl))
set_option maxRecDepth 100000 in
theorem kx_1988 : (Jvm.Cond.methodLink "CoinJudgeModel" (319 : Nat) ({ cls := "CoinJudgeModel", name := "again", desc := "([BII[BI)V" } : Jvm.MethodName)) ∈ lw_tbl := List.mem_append_right _ (List.mem_of_getElem? (i := 1988) (by rfl))
set_option maxRecDepth 100000 in
theorem kx_1990 : (Jvm.Cond.instanceMethod ({ cls := "CoinJudgeModel", name := "again", desc := "([BII[BI)V" } : Jvm.MethodName)) ∈ lw_tbl := List.mem_append_right _ (List.mem_of_getElem? (i := 1990) (by rfl))
set_option maxRecDepth 100000 in
theorem kx_2011 : (Jvm.Cond.code ({ cls := "CoinJudgeModel", name := "root", desc := "([BI)V" } : Jvm.MethodName) prog_14_method_43_code (6 : Nat) (Option.none : Option Jvm.ClassFile.FieldType)) ∈ lw_tbl := List.mem_append_right _ (List.mem_of_getElem? (i := 2011) (by rfl))
set_option maxRecDepth 100000 in
theorem kx_2015 : (Jvm.Cond.code ({ cls := "CoinJudgeModel", name := "due", desc := "(I)I" } : Jvm.MethodName) prog_14_method_41_code (11 : Nat) (Option.some Jvm.ClassFile.FieldType.int)) ∈ lw_tbl := List.mem_append_right _ (List.mem_of_getElem? (i := 2015) (by rfl))
set_option maxRecDepth 100000 in
theorem kx_2016 : (Jvm.Cond.methodLink "CoinJudgeModel" (366 : Nat) ({ cls := "CoinJudgeModel", name := "bitsOf", desc := "(I)J" } : Jvm.MethodName)) ∈ lw_tbl := List.mem_append_right _ (List.mem_of_getElem? (i := 2016) (by rfl))
set_option maxRecDepth 100000 in
theorem kx_2018 : (Jvm.Cond.instanceMethod ({ cls := "CoinJudgeModel", name := "bitsOf", desc := "(I)J" } : Jvm.MethodName)) ∈ lw_tbl := List.mem_append_right _ (List.mem_of_getElem? (i := 2018) (by rfl))
set_option maxRecDepth 100000 in
theorem kx_2019 : (Jvm.Cond.code ({ cls := "CoinJudgeModel", name := "bitsOf", desc := "(I)J" } : Jvm.MethodName) prog_14_method_37_code (2 : Nat) (Option.some Jvm.ClassFile.FieldType.long)) ∈ lw_tbl := List.mem_append_right _ (List.mem_of_getElem? (i := 2019) (by rfl))
set_option maxRecDepth 100000 in
theorem kx_2020 : (Jvm.Cond.methodLink "CoinJudgeModel" (267 : Nat) ({ cls := "CoinJudgeModel", name := "number", desc := "([BII)J" } : Jvm.MethodName)) ∈ lw_tbl := List.mem_append_right _ (List.mem_of_getElem? (i := 2020) (by rfl))
set_option maxRecDepth 100000 in
theorem kx_2022 : (Jvm.Cond.instanceMethod ({ cls := "CoinJudgeModel", name := "number", desc := "([BII)J" } : Jvm.MethodName)) ∈ lw_tbl := List.mem_append_right _ (List.mem_of_getElem? (i := 2022) (by rfl))
set_option maxRecDepth 100000 in
theorem kx_2023 : (Jvm.Cond.code ({ cls := "CoinJudgeModel", name := "number", desc := "([BII)J" } : Jvm.MethodName) prog_14_method_25_code (7 : Nat) (Option.some Jvm.ClassFile.FieldType.long)) ∈ lw_tbl := List.mem_append_right _ (List.mem_of_getElem? (i := 2023) (by rfl))
set_option maxRecDepth 100000 in
theorem kx_2024 : (Jvm.Cond.methodLink "CoinJudgeModel" (357 : Nat) ({ cls := "CoinJudgeModel", name := "timeOf", desc := "(I)J" } : Jvm.MethodName)) ∈ lw_tbl := List.mem_append_right _ (List.mem_of_getElem? (i := 2024) (by rfl))
set_option maxRecDepth 100000 in
theorem kx_2026 : (Jvm.Cond.instanceMethod ({ cls := "CoinJudgeModel", name := "timeOf", desc := "(I)J" } : Jvm.MethodName)) ∈ lw_tbl := List.mem_append_right _ (List.mem_of_getElem? (i := 2026) (by rfl))
set_option maxRecDepth 100000 in
theorem kx_2027 : (Jvm.Cond.code ({ cls := "CoinJudgeModel", name := "timeOf", desc := "(I)J" } : Jvm.MethodName) prog_14_method_38_code (2 : Nat) (Option.some Jvm.ClassFile.FieldType.long)) ∈ lw_tbl := List.mem_append_right _ (List.mem_of_getElem? (i := 2027) (by rfl))
set_option maxRecDepth 100000 in
theorem kx_2028 : (Jvm.Cond.methodLink "CoinJudgeModel" (369 : Nat) ({ cls := "CoinJudgeModel", name := "up", desc := "(II)I" } : Jvm.MethodName)) ∈ lw_tbl := List.mem_append_right _ (List.mem_of_getElem? (i := 2028) (by rfl))
set_option maxRecDepth 100000 in
theorem kx_2030 : (Jvm.Cond.instanceMethod ({ cls := "CoinJudgeModel", name := "up", desc := "(II)I" } : Jvm.MethodName)) ∈ lw_tbl := List.mem_append_right _ (List.mem_of_getElem? (i := 2030) (by rfl))
set_option maxRecDepth 100000 in
theorem kx_2031 : (Jvm.Cond.code ({ cls := "CoinJudgeModel", name := "up", desc := "(II)I" } : Jvm.MethodName) prog_14_method_39_code (5 : Nat) (Option.some Jvm.ClassFile.FieldType.int)) ∈ lw_tbl := List.mem_append_right _ (List.mem_of_getElem? (i := 2031) (by rfl))
set_option maxRecDepth 100000 in
theorem kx_2032 : (Jvm.Cond.constantLong "CoinJudgeModel" (372 : Nat) (1200 : Int64)) ∈ lw_tbl := List.mem_append_right _ (List.mem_of_getElem? (i := 2032) (by rfl))
set_option maxRecDepth 100000 in
theorem kx_2033 : (Jvm.Cond.constantLong "CoinJudgeModel" (374 : Nat) (19200 : Int64)) ∈ lw_tbl := List.mem_append_right _ (List.mem_of_getElem? (i := 2033) (by rfl))
set_option maxRecDepth 100000 in
theorem kx_2034 : (Jvm.Cond.constantLong "CoinJudgeModel" (385 : Nat) (4800 : Int64)) ∈ lw_tbl := List.mem_append_right _ (List.mem_of_getElem? (i := 2034) (by rfl))
set_option maxRecDepth 100000 in
theorem kx_2036 : (Jvm.Cond.methodLink "CoinJudgeModel" (390 : Nat) ({ cls := "CoinJudgeModel", name := "bits", desc := "([I)I" } : Jvm.MethodName)) ∈ lw_tbl := List.mem_append_right _ (List.mem_of_getElem? (i := 2036) (by rfl))
set_option maxRecDepth 100000 in
theorem kx_2037 : (Jvm.Cond.static ({ cls := "CoinJudgeModel", name := "bits", desc := "([I)I" } : Jvm.MethodName)) ∈ lw_tbl := List.mem_append_right _ (List.mem_of_getElem? (i := 2037) (by rfl))
set_option maxRecDepth 100000 in
theorem kx_2038 : (Jvm.Cond.code ({ cls := "CoinJudgeModel", name := "bits", desc := "([I)I" } : Jvm.MethodName) prog_14_method_34_code (3 : Nat) (Option.some Jvm.ClassFile.FieldType.int)) ∈ lw_tbl := List.mem_append_right _ (List.mem_of_getElem? (i := 2038) (by rfl))
set_option maxRecDepth 100000 in
theorem kx_2039 : (Jvm.Cond.methodLink "CoinJudgeModel" (334 : Nat) ({ cls := "CoinJudgeModel", name := "byteOf", desc := "([II)I" } : Jvm.MethodName)) ∈ lw_tbl := List.mem_append_right _ (List.mem_of_getElem? (i := 2039) (by rfl))
set_option maxRecDepth 100000 in
theorem kx_2040 : (Jvm.Cond.static ({ cls := "CoinJudgeModel", name := "byteOf", desc := "([II)I" } : Jvm.MethodName)) ∈ lw_tbl := List.mem_append_right _ (List.mem_of_getElem? (i := 2040) (by rfl))
set_option maxRecDepth 100000 in
theorem kx_2041 : (Jvm.Cond.code ({ cls := "CoinJudgeModel", name := "byteOf", desc := "([II)I" } : Jvm.MethodName) prog_14_method_33_code (2 : Nat) (Option.some Jvm.ClassFile.FieldType.int)) ∈ lw_tbl := List.mem_append_right _ (List.mem_of_getElem? (i := 2041) (by rfl))
set_option maxRecDepth 100000 in
theorem kx_2053 : (Jvm.Cond.code ({ cls := "CoinJudgeModel$Block", name := "<init>", desc := "()V" } : Jvm.MethodName) prog_15_method_1_code (1 : Nat) (Option.none : Option Jvm.ClassFile.FieldType)) ∈ lw_tbl := List.mem_append_right _ (List.mem_of_getElem? (i := 2053) (by rfl))
set_option maxRecDepth 100000 in
theorem kx_2054 : (Jvm.Cond.methodLink "CoinJudgeModel$Block" (3 : Nat) ({ cls := "java/lang/Object", name := "<init>", desc := "()V" } : Jvm.MethodName)) ∈ lw_tbl := List.mem_append_right _ (List.mem_of_getElem? (i := 2054) (by rfl))
set_option maxRecDepth 100000 in
theorem kx_2055 : (Jvm.Cond.classLink "CoinJudgeModel$Block" (18 : Nat) "CoinJudgeModel$Parsed") ∈ lw_tbl := List.mem_append_right _ (List.mem_of_getElem? (i := 2055) (by rfl))
set_option maxRecDepth 100000 in
theorem kx_2056 : (Jvm.Cond.methodLinkNest "CoinJudgeModel$Block" (20 : Nat) ({ cls := "CoinJudgeModel$Parsed", name := "<init>", desc := "()V" } : Jvm.MethodName) "CoinJudgeModel") ∈ lw_tbl := List.mem_append_right _ (List.mem_of_getElem? (i := 2056) (by rfl))
set_option maxRecDepth 100000 in
theorem kx_2057 : (Jvm.Cond.fieldLink "CoinJudgeModel$Block" (9 : Nat) "CoinJudgeModel$Block" "bytes" "[B") ∈ lw_tbl := List.mem_append_right _ (List.mem_of_getElem? (i := 2057) (by rfl))
set_option maxRecDepth 100000 in
theorem kx_2058 : (Jvm.Cond.fieldLinkNest "CoinJudgeModel" (351 : Nat) "CoinJudgeModel$Block" "bytes" "[B" "CoinJudgeModel") ∈ lw_tbl := List.mem_append_right _ (List.mem_of_getElem? (i := 2058) (by rfl))
set_option maxRecDepth 100000 in
theorem kx_2060 : (Jvm.Cond.fieldLink "CoinJudgeModel$Block" (15 : Nat) "CoinJudgeModel$Block" "hash" "[B") ∈ lw_tbl := List.mem_append_right _ (List.mem_of_getElem? (i := 2060) (by rfl))
set_option maxRecDepth 100000 in
theorem kx_2061 : (Jvm.Cond.fieldLinkNest "CoinJudgeModel" (406 : Nat) "CoinJudgeModel$Block" "hash" "[B" "CoinJudgeModel") ∈ lw_tbl := List.mem_append_right _ (List.mem_of_getElem? (i := 2061) (by rfl))
set_option maxRecDepth 100000 in
theorem kx_2062 : (Jvm.Cond.fieldLink "CoinJudgeModel$Block" (21 : Nat) "CoinJudgeModel$Block" "parsed" "LCoinJudgeModel$Parsed;") ∈ lw_tbl := List.mem_append_right _ (List.mem_of_getElem? (i := 2062) (by rfl))
set_option maxRecDepth 100000 in
theorem kx_2064 : (Jvm.Cond.fieldLinkNest "CoinJudgeModel" (363 : Nat) "CoinJudgeModel$Block" "height" "I" "CoinJudgeModel") ∈ lw_tbl := List.mem_append_right _ (List.mem_of_getElem? (i := 2064) (by rfl))
set_option maxRecDepth 100000 in
theorem kx_2065 : (Jvm.Cond.fieldLinkNest "CoinJudgeModel" (354 : Nat) "CoinJudgeModel$Block" "parent" "I" "CoinJudgeModel") ∈ lw_tbl := List.mem_append_right _ (List.mem_of_getElem? (i := 2065) (by rfl))
set_option maxRecDepth 100000 in
theorem kx_2068 : (Jvm.Cond.fieldLink "CoinJudgeModel$Block" (25 : Nat) "CoinJudgeModel$Block" "work" "[I") ∈ lw_tbl := List.mem_append_right _ (List.mem_of_getElem? (i := 2068) (by rfl))
set_option maxRecDepth 100000 in
theorem kx_2092 : (Jvm.Cond.code ({ cls := "CoinJudgeModel", name := "parse", desc := "([BILCoinJudgeModel$Parsed;)Z" } : Jvm.MethodName) prog_14_method_28_code (12 : Nat) (Option.some Jvm.ClassFile.FieldType.boolean)) ∈ lw_tbl := List.mem_append_right _ (List.mem_of_getElem? (i := 2092) (by rfl))
set_option maxRecDepth 100000 in
theorem kx_2093 : (Jvm.Cond.constantLong "CoinJudgeModel" (280 : Nat) (80 : Int64)) ∈ lw_tbl := List.mem_append_right _ (List.mem_of_getElem? (i := 2093) (by rfl))
set_option maxRecDepth 100000 in
theorem kx_2094 : (Jvm.Cond.methodLink "CoinJudgeModel" (263 : Nat) ({ cls := "CoinJudgeModel", name := "skip", desc := "(J)V" } : Jvm.MethodName)) ∈ lw_tbl := List.mem_append_right _ (List.mem_of_getElem? (i := 2094) (by rfl))
set_option maxRecDepth 100000 in
theorem kx_2096 : (Jvm.Cond.instanceMethod ({ cls := "CoinJudgeModel", name := "skip", desc := "(J)V" } : Jvm.MethodName)) ∈ lw_tbl := List.mem_append_right _ (List.mem_of_getElem? (i := 2096) (by rfl))
set_option maxRecDepth 100000 in
theorem kx_2097 : (Jvm.Cond.code ({ cls := "CoinJudgeModel", name := "skip", desc := "(J)V" } : Jvm.MethodName) prog_14_method_26_code (3 : Nat) (Option.none : Option Jvm.ClassFile.FieldType)) ∈ lw_tbl := List.mem_append_right _ (List.mem_of_getElem? (i := 2097) (by rfl))
set_option maxRecDepth 100000 in
theorem kx_2098 : (Jvm.Cond.methodLink "CoinJudgeModel" (282 : Nat) ({ cls := "CoinJudgeModel", name := "count", desc := "()J" } : Jvm.MethodName)) ∈ lw_tbl := List.mem_append_right _ (List.mem_of_getElem? (i := 2098) (by rfl))
set_option maxRecDepth 100000 in
theorem kx_2100 : (Jvm.Cond.instanceMethod ({ cls := "CoinJudgeModel", name := "count", desc := "()J" } : Jvm.MethodName)) ∈ lw_tbl := List.mem_append_right _ (List.mem_of_getElem? (i := 2100) (by rfl))
set_option maxRecDepth 100000 in
theorem kx_2101 : (Jvm.Cond.code ({ cls := "CoinJudgeModel", name := "count", desc := "()J" } : Jvm.MethodName) prog_14_method_27_code (6 : Nat) (Option.some Jvm.ClassFile.FieldType.long)) ∈ lw_tbl := List.mem_append_right _ (List.mem_of_getElem? (i := 2101) (by rfl))
set_option maxRecDepth 100000 in
theorem kx_2102 : (Jvm.Cond.methodLink "CoinJudgeModel" (259 : Nat) ({ cls := "CoinJudgeModel", name := "byteAt", desc := "(I)I" } : Jvm.MethodName)) ∈ lw_tbl := List.mem_append_right _ (List.mem_of_getElem? (i := 2102) (by rfl))
set_option maxRecDepth 100000 in
theorem kx_2104 : (Jvm.Cond.instanceMethod ({ cls := "CoinJudgeModel", name := "byteAt", desc := "(I)I" } : Jvm.MethodName)) ∈ lw_tbl := List.mem_append_right _ (List.mem_of_getElem? (i := 2104) (by rfl))
set_option maxRecDepth 100000 in
theorem kx_2105 : (Jvm.Cond.code ({ cls := "CoinJudgeModel", name := "byteAt", desc := "(I)I" } : Jvm.MethodName) prog_14_method_24_code (2 : Nat) (Option.some Jvm.ClassFile.FieldType.int)) ∈ lw_tbl := List.mem_append_right _ (List.mem_of_getElem? (i := 2105) (by rfl))
set_option maxRecDepth 100000 in
theorem kx_2106 : (Jvm.Cond.constantLong "CoinJudgeModel" (273 : Nat) (65536 : Int64)) ∈ lw_tbl := List.mem_append_right _ (List.mem_of_getElem? (i := 2106) (by rfl))
set_option maxRecDepth 100000 in
theorem kx_2107 : (Jvm.Cond.constantLong "CoinJudgeModel" (286 : Nat) (12 : Int64)) ∈ lw_tbl := List.mem_append_right _ (List.mem_of_getElem? (i := 2107) (by rfl))
set_option maxRecDepth 100000 in
theorem kx_2108 : (Jvm.Cond.constantLong "CoinJudgeModel" (293 : Nat) (4 : Int64)) ∈ lw_tbl := List.mem_append_right _ (List.mem_of_getElem? (i := 2108) (by rfl))
set_option maxRecDepth 100000 in
theorem kx_2109 : (Jvm.Cond.constantLong "CoinJudgeModel" (295 : Nat) (40 : Int64)) ∈ lw_tbl := List.mem_append_right _ (List.mem_of_getElem? (i := 2109) (by rfl))
set_option maxRecDepth 100000 in
theorem kx_2110 : (Jvm.Cond.constantLong "CoinJudgeModel" (303 : Nat) (36 : Int64)) ∈ lw_tbl := List.mem_append_right _ (List.mem_of_getElem? (i := 2110) (by rfl))
set_option maxRecDepth 100000 in
theorem kx_2111 : (Jvm.Cond.constantLong "CoinJudgeModel" (305 : Nat) (180 : Int64)) ∈ lw_tbl := List.mem_append_right _ (List.mem_of_getElem? (i := 2111) (by rfl))
set_option maxRecDepth 100000 in
theorem kx_2115 : (Jvm.Cond.code ({ cls := "CoinJudgeModel", name := "work", desc := "([I[I)V" } : Jvm.MethodName) prog_14_method_35_code (6 : Nat) (Option.none : Option Jvm.ClassFile.FieldType)) ∈ lw_tbl := List.mem_append_right _ (List.mem_of_getElem? (i := 2115) (by rfl))
set_option maxRecDepth 100000 in
theorem kx_2116 : (Jvm.Cond.methodLink "CoinJudgeModel" (345 : Nat) ({ cls := "CoinJudgeModel$Ring", name := "plus", desc := "([I[I[I)J" } : Jvm.MethodName)) ∈ lw_tbl := List.mem_append_right _ (List.mem_of_getElem? (i := 2116) (by rfl))
set_option maxRecDepth 100000 in
theorem kx_2122 : (Jvm.Cond.methodLink "CoinJudgeModel" (419 : Nat) ({ cls := "CoinJudgeModel", name := "input", desc := "(LCoinJudgeModel$Parsed;II)I" } : Jvm.MethodName)) ∈ lw_tbl := List.mem_append_right _ (List.mem_of_getElem? (i := 2122) (by rfl))
set_option maxRecDepth 100000 in
theorem kx_2124 : (Jvm.Cond.instanceMethod ({ cls := "CoinJudgeModel", name := "input", desc := "(LCoinJudgeModel$Parsed;II)I" } : Jvm.MethodName)) ∈ lw_tbl := List.mem_append_right _ (List.mem_of_getElem? (i := 2124) (by rfl))
set_option maxRecDepth 100000 in
theorem kx_2125 : (Jvm.Cond.code ({ cls := "CoinJudgeModel", name := "input", desc := "(LCoinJudgeModel$Parsed;II)I" } : Jvm.MethodName) prog_14_method_30_code (6 : Nat) (Option.some Jvm.ClassFile.FieldType.int)) ∈ lw_tbl := List.mem_append_right _ (List.mem_of_getElem? (i := 2125) (by rfl))
set_option maxRecDepth 100000 in
theorem kx_2126 : (Jvm.Cond.methodLink "CoinJudgeModel" (328 : Nat) ({ cls := "CoinJudgeModel", name := "script", desc := "([BI)I" } : Jvm.MethodName)) ∈ lw_tbl := List.mem_append_right _ (List.mem_of_getElem? (i := 2126) (by rfl))
set_option maxRecDepth 100000 in
theorem kx_2128 : (Jvm.Cond.instanceMethod ({ cls := "CoinJudgeModel", name := "script", desc := "([BI)I" } : Jvm.MethodName)) ∈ lw_tbl := List.mem_append_right _ (List.mem_of_getElem? (i := 2128) (by rfl))
set_option maxRecDepth 100000 in
theorem kx_2129 : (Jvm.Cond.code ({ cls := "CoinJudgeModel", name := "script", desc := "([BI)I" } : Jvm.MethodName) prog_14_method_29_code (5 : Nat) (Option.some Jvm.ClassFile.FieldType.int)) ∈ lw_tbl := List.mem_append_right _ (List.mem_of_getElem? (i := 2129) (by rfl))
set_option maxRecDepth 100000 in
theorem kx_2134 : (Jvm.Cond.methodLink "CoinJudgeModel" (409 : Nat) ({ cls := "CoinJudgeModel", name := "alike", desc := "([BI[BII)Z" } : Jvm.MethodName)) ∈ lw_tbl := List.mem_append_right _ (List.mem_of_getElem? (i := 2134) (by rfl))
set_option maxRecDepth 100000 in
theorem kx_2135 : (Jvm.Cond.static ({ cls := "CoinJudgeModel", name := "alike", desc := "([BI[BII)Z" } : Jvm.MethodName)) ∈ lw_tbl := List.mem_append_right _ (List.mem_of_getElem? (i := 2135) (by rfl))
set_option maxRecDepth 100000 in
theorem kx_2136 : (Jvm.Cond.code ({ cls := "CoinJudgeModel", name := "alike", desc := "([BI[BII)Z" } : Jvm.MethodName) prog_14_method_44_code (6 : Nat) (Option.some Jvm.ClassFile.FieldType.boolean)) ∈ lw_tbl := List.mem_append_right _ (List.mem_of_getElem? (i := 2136) (by rfl))
set_option maxRecDepth 100000 in
theorem kx_2144 : (Jvm.Cond.code ({ cls := "CoinJudgeModel", name := "output", desc := "(LCoinJudgeModel$Parsed;II)I" } : Jvm.MethodName) prog_14_method_31_code (6 : Nat) (Option.some Jvm.ClassFile.FieldType.int)) ∈ lw_tbl := List.mem_append_right _ (List.mem_of_getElem? (i := 2144) (by rfl))
set_option maxRecDepth 100000 in
theorem kx_2145 : (Jvm.Cond.constantLong "CoinJudgeModel" (417 : Nat) (2100000000000000 : Int64)) ∈ lw_tbl := List.mem_append_right _ (List.mem_of_getElem? (i := 2145) (by rfl))
set_option maxRecDepth 100000 in
theorem kx_2362 : (Jvm.Cond.code ({ cls := "CoinJudgeModel", name := "mark", desc := "(III)I" } : Jvm.MethodName) prog_14_method_36_code (3 : Nat) (Option.some Jvm.ClassFile.FieldType.int)) ∈ lw_tbl := List.mem_append_right _ (List.mem_of_getElem? (i := 2362) (by rfl))
set_option maxRecDepth 100000 in
theorem kx_2404 : (Jvm.Cond.fieldLink "CoinJudgeModel" (252 : Nat) "CoinJudgeModel" "at" "I") ∈ lw_tbl := List.mem_append_right _ (List.mem_of_getElem? (i := 2404) (by rfl))
set_option maxRecDepth 100000 in
theorem kx_2405 : (Jvm.Cond.fieldLink "CoinJudgeModel" (248 : Nat) "CoinJudgeModel" "limit" "I") ∈ lw_tbl := List.mem_append_right _ (List.mem_of_getElem? (i := 2405) (by rfl))
set_option maxRecDepth 100000 in
theorem kx_2406 : (Jvm.Cond.fieldLink "CoinJudgeModel" (245 : Nat) "CoinJudgeModel" "text" "[B") ∈ lw_tbl := List.mem_append_right _ (List.mem_of_getElem? (i := 2406) (by rfl))
set_option maxRecDepth 100000 in
theorem kx_2407 : (Jvm.Cond.fieldLink "CoinJudgeModel" (255 : Nat) "CoinJudgeModel" "broken" "Z") ∈ lw_tbl := List.mem_append_right _ (List.mem_of_getElem? (i := 2407) (by rfl))
set_option maxRecDepth 100000 in
theorem kx_2408 : (Jvm.Cond.fieldLink "CoinJudgeModel" (325 : Nat) "CoinJudgeModel" "scriptAt" "I") ∈ lw_tbl := List.mem_append_right _ (List.mem_of_getElem? (i := 2408) (by rfl))
set_option maxRecDepth 100000 in
theorem kx_2409 : (Jvm.Cond.fieldLink "CoinJudgeModel" (322 : Nat) "CoinJudgeModel" "scriptLength" "I") ∈ lw_tbl := List.mem_append_right _ (List.mem_of_getElem? (i := 2409) (by rfl))
set_option maxRecDepth 100000 in
theorem kx_2410 : (Jvm.Cond.fieldLink "CoinJudgeModel" (387 : Nat) "CoinJudgeModel" "easiest" "[I") ∈ lw_tbl := List.mem_append_right _ (List.mem_of_getElem? (i := 2410) (by rfl))
set_option maxRecDepth 100000 in
theorem kx_2411 : (Jvm.Cond.fieldLink "CoinJudgeModel" (342 : Nat) "CoinJudgeModel" "goal" "[I") ∈ lw_tbl := List.mem_append_right _ (List.mem_of_getElem? (i := 2411) (by rfl))
set_option maxRecDepth 100000 in
theorem kx_2412 : (Jvm.Cond.fieldLink "CoinJudgeModel" (338 : Nat) "CoinJudgeModel" "one" "[I") ∈ lw_tbl := List.mem_append_right _ (List.mem_of_getElem? (i := 2412) (by rfl))
set_option maxRecDepth 100000 in
theorem kx_2413 : (Jvm.Cond.fieldLink "CoinJudgeModel" (339 : Nat) "CoinJudgeModel" "rest" "[I") ∈ lw_tbl := List.mem_append_right _ (List.mem_of_getElem? (i := 2413) (by rfl))
set_option maxRecDepth 100000 in
theorem kx_2414 : (Jvm.Cond.fieldLink "CoinJudgeModel" (347 : Nat) "CoinJudgeModel" "blocks" "[LCoinJudgeModel$Block;") ∈ lw_tbl := List.mem_append_right _ (List.mem_of_getElem? (i := 2414) (by rfl))
set_option maxRecDepth 100000 in
theorem kx_2415 : (Jvm.Cond.fieldLink "CoinJudgeModel" (403 : Nat) "CoinJudgeModel" "kept" "I") ∈ lw_tbl := List.mem_append_right _ (List.mem_of_getElem? (i := 2415) (by rfl))
set_option maxRecDepth 100000 in
theorem kx_2421 : (Jvm.Cond.fieldLink "CoinJudgeModel" (361 : Nat) "CoinJudgeModel" "times" "[J") ∈ lw_tbl := List.mem_append_right _ (List.mem_of_getElem? (i := 2421) (by rfl))
set_option maxRecDepth 100000 in
theorem kx_2422 : (Jvm.Cond.fieldLink "CoinJudgeModel" (382 : Nat) "CoinJudgeModel" "wide" "[I") ∈ lw_tbl := List.mem_append_right _ (List.mem_of_getElem? (i := 2422) (by rfl))
set_option maxRecDepth 100000 in
theorem kx_2426 : (Jvm.Cond.fieldLink "CoinJudgeModel" (397 : Nat) "CoinJudgeModel" "tree" "[B") ∈ lw_tbl := List.mem_append_right _ (List.mem_of_getElem? (i := 2426) (by rfl))
set_option maxRecDepth 100000 in
theorem kx_2427 : (Jvm.Cond.fieldLink "CoinJudgeModel" (400 : Nat) "CoinJudgeModel" "both" "[B") ∈ lw_tbl := List.mem_append_right _ (List.mem_of_getElem? (i := 2427) (by rfl))
set_option maxRecDepth 100000 in
theorem kx_2428 : (Jvm.Cond.fieldLink "CoinJudgeModel" (394 : Nat) "CoinJudgeModel" "root" "[B") ∈ lw_tbl := List.mem_append_right _ (List.mem_of_getElem? (i := 2428) (by rfl))
set_option maxRecDepth 100000 in
theorem kx_2819 : (Jvm.Cond.code ({ cls := "CoinJudgeModel", name := "findBlock", desc := "([BI)I" } : Jvm.MethodName) prog_14_method_46_code (4 : Nat) (Option.some Jvm.ClassFile.FieldType.int)) ∈ lw_tbl := List.mem_append_right _ (List.mem_of_getElem? (i := 2819) (by rfl))
set_option maxRecDepth 100000 in
theorem kx_2827 : (Jvm.Cond.code ({ cls := "CoinJudgeModel", name := "middle", desc := "(I)J" } : Jvm.MethodName) prog_14_method_40_code (7 : Nat) (Option.some Jvm.ClassFile.FieldType.long)) ∈ lw_tbl := List.mem_append_right _ (List.mem_of_getElem? (i := 2827) (by rfl))
set_option maxRecDepth 100000 in
theorem kx_2831 : (Jvm.Cond.code ({ cls := "CoinJudgeModel", name := "alone", desc := "(LCoinJudgeModel$Parsed;I)I" } : Jvm.MethodName) prog_14_method_47_code (10 : Nat) (Option.some Jvm.ClassFile.FieldType.int)) ∈ lw_tbl := List.mem_append_right _ (List.mem_of_getElem? (i := 2831) (by rfl))
set_option maxRecDepth 100000 in
theorem kx_2832 : (Jvm.Cond.methodLink "CoinJudgeModel" (413 : Nat) ({ cls := "CoinJudgeModel", name := "isNone", desc := "(LCoinJudgeModel$Parsed;I)Z" } : Jvm.MethodName)) ∈ lw_tbl := List.mem_append_right _ (List.mem_of_getElem? (i := 2832) (by rfl))
set_option maxRecDepth 100000 in
theorem kx_2834 : (Jvm.Cond.instanceMethod ({ cls := "CoinJudgeModel", name := "isNone", desc := "(LCoinJudgeModel$Parsed;I)Z" } : Jvm.MethodName)) ∈ lw_tbl := List.mem_append_right _ (List.mem_of_getElem? (i := 2834) (by rfl))
set_option maxRecDepth 100000 in
theorem kx_2835 : (Jvm.Cond.code ({ cls := "CoinJudgeModel", name := "isNone", desc := "(LCoinJudgeModel$Parsed;I)Z" } : Jvm.MethodName) prog_14_method_45_code (4 : Nat) (Option.some Jvm.ClassFile.FieldType.boolean)) ∈ lw_tbl := List.mem_append_right _ (List.mem_of_getElem? (i := 2835) (by rfl))
set_option maxRecDepth 100000 in
theorem kx_2851 : (Jvm.Cond.code ({ cls := "CoinJudgeModel", name := "isIn", desc := "(II)Z" } : Jvm.MethodName) prog_14_method_42_code (4 : Nat) (Option.some Jvm.ClassFile.FieldType.boolean)) ∈ lw_tbl := List.mem_append_right _ (List.mem_of_getElem? (i := 2851) (by rfl))
theorem kxp_65 : Cond.selects "CoinJudgeModel" ({ cls := "CoinJudgeModel", name := "root", desc := "([BI)V" } : MethodName) ({ cls := "CoinJudgeModel", name := "root", desc := "([BI)V" } : MethodName) ∈ lw_tbl := List.mem_append_left _ (List.mem_of_getElem? (i := 65) (by decide +kernel))
theorem kxp_66 : Cond.selects "CoinJudgeModel" ({ cls := "CoinJudgeModel", name := "due", desc := "(I)I" } : MethodName) ({ cls := "CoinJudgeModel", name := "due", desc := "(I)I" } : MethodName) ∈ lw_tbl := List.mem_append_left _ (List.mem_of_getElem? (i := 66) (by decide +kernel))
theorem kxp_67 : Cond.selects "CoinJudgeModel" ({ cls := "CoinJudgeModel", name := "bitsOf", desc := "(I)J" } : MethodName) ({ cls := "CoinJudgeModel", name := "bitsOf", desc := "(I)J" } : MethodName) ∈ lw_tbl := List.mem_append_left _ (List.mem_of_getElem? (i := 67) (by decide +kernel))
theorem kxp_68 : Cond.selects "CoinJudgeModel" ({ cls := "CoinJudgeModel", name := "number", desc := "([BII)J" } : MethodName) ({ cls := "CoinJudgeModel", name := "number", desc := "([BII)J" } : MethodName) ∈ lw_tbl := List.mem_append_left _ (List.mem_of_getElem? (i := 68) (by decide +kernel))
theorem kxp_69 : Cond.selects "CoinJudgeModel" ({ cls := "CoinJudgeModel", name := "timeOf", desc := "(I)J" } : MethodName) ({ cls := "CoinJudgeModel", name := "timeOf", desc := "(I)J" } : MethodName) ∈ lw_tbl := List.mem_append_left _ (List.mem_of_getElem? (i := 69) (by decide +kernel))
theorem kxp_70 : Cond.selects "CoinJudgeModel" ({ cls := "CoinJudgeModel", name := "up", desc := "(II)I" } : MethodName) ({ cls := "CoinJudgeModel", name := "up", desc := "(II)I" } : MethodName) ∈ lw_tbl := List.mem_append_left _ (List.mem_of_getElem? (i := 70) (by decide +kernel))
theorem kxp_72 : Cond.selects "CoinJudgeModel" ({ cls := "CoinJudgeModel", name := "parse", desc := "([BILCoinJudgeModel$Parsed;)Z" } : MethodName) ({ cls := "CoinJudgeModel", name := "parse", desc := "([BILCoinJudgeModel$Parsed;)Z" } : MethodName) ∈ lw_tbl := List.mem_append_left _ (List.mem_of_getElem? (i := 72) (by decide +kernel))
theorem kxp_73 : Cond.selects "CoinJudgeModel" ({ cls := "CoinJudgeModel", name := "skip", desc := "(J)V" } : MethodName) ({ cls := "CoinJudgeModel", name := "skip", desc := "(J)V" } : MethodName) ∈ lw_tbl := List.mem_append_left _ (List.mem_of_getElem? (i := 73) (by decide +kernel))
theorem kxp_74 : Cond.selects "CoinJudgeModel" ({ cls := "CoinJudgeModel", name := "count", desc := "()J" } : MethodName) ({ cls := "CoinJudgeModel", name := "count", desc := "()J" } : MethodName) ∈ lw_tbl := List.mem_append_left _ (List.mem_of_getElem? (i := 74) (by decide +kernel))
theorem kxp_75 : Cond.selects "CoinJudgeModel" ({ cls := "CoinJudgeModel", name := "byteAt", desc := "(I)I" } : MethodName) ({ cls := "CoinJudgeModel", name := "byteAt", desc := "(I)I" } : MethodName) ∈ lw_tbl := List.mem_append_left _ (List.mem_of_getElem? (i := 75) (by decide +kernel))
theorem kxp_76 : Cond.selects "CoinJudgeModel" ({ cls := "CoinJudgeModel", name := "work", desc := "([I[I)V" } : MethodName) ({ cls := "CoinJudgeModel", name := "work", desc := "([I[I)V" } : MethodName) ∈ lw_tbl := List.mem_append_left _ (List.mem_of_getElem? (i := 76) (by decide +kernel))
theorem kxp_78 : Cond.selects "CoinJudgeModel" ({ cls := "CoinJudgeModel", name := "input", desc := "(LCoinJudgeModel$Parsed;II)I" } : MethodName) ({ cls := "CoinJudgeModel", name := "input", desc := "(LCoinJudgeModel$Parsed;II)I" } : MethodName) ∈ lw_tbl := List.mem_append_left _ (List.mem_of_getElem? (i := 78) (by decide +kernel))
theorem kxp_79 : Cond.selects "CoinJudgeModel" ({ cls := "CoinJudgeModel", name := "script", desc := "([BI)I" } : MethodName) ({ cls := "CoinJudgeModel", name := "script", desc := "([BI)I" } : MethodName) ∈ lw_tbl := List.mem_append_left _ (List.mem_of_getElem? (i := 79) (by decide +kernel))
theorem kxp_82 : Cond.selects "CoinJudgeModel" ({ cls := "CoinJudgeModel", name := "output", desc := "(LCoinJudgeModel$Parsed;II)I" } : MethodName) ({ cls := "CoinJudgeModel", name := "output", desc := "(LCoinJudgeModel$Parsed;II)I" } : MethodName) ∈ lw_tbl := List.mem_append_left _ (List.mem_of_getElem? (i := 82) (by decide +kernel))
theorem kxp_134 : Cond.selects "CoinJudgeModel" ({ cls := "CoinJudgeModel", name := "findBlock", desc := "([BI)I" } : MethodName) ({ cls := "CoinJudgeModel", name := "findBlock", desc := "([BI)I" } : MethodName) ∈ lw_tbl := List.mem_append_left _ (List.mem_of_getElem? (i := 134) (by decide +kernel))
theorem kxp_136 : Cond.selects "CoinJudgeModel" ({ cls := "CoinJudgeModel", name := "middle", desc := "(I)J" } : MethodName) ({ cls := "CoinJudgeModel", name := "middle", desc := "(I)J" } : MethodName) ∈ lw_tbl := List.mem_append_left _ (List.mem_of_getElem? (i := 136) (by decide +kernel))
theorem kxp_137 : Cond.selects "CoinJudgeModel" ({ cls := "CoinJudgeModel", name := "alone", desc := "(LCoinJudgeModel$Parsed;I)I" } : MethodName) ({ cls := "CoinJudgeModel", name := "alone", desc := "(LCoinJudgeModel$Parsed;I)I" } : MethodName) ∈ lw_tbl := List.mem_append_left _ (List.mem_of_getElem? (i := 137) (by decide +kernel))
theorem kxp_138 : Cond.selects "CoinJudgeModel" ({ cls := "CoinJudgeModel", name := "isNone", desc := "(LCoinJudgeModel$Parsed;I)Z" } : MethodName) ({ cls := "CoinJudgeModel", name := "isNone", desc := "(LCoinJudgeModel$Parsed;I)Z" } : MethodName) ∈ lw_tbl := List.mem_append_left _ (List.mem_of_getElem? (i := 138) (by decide +kernel))
theorem kxp_142 : Cond.selects "CoinJudgeModel" ({ cls := "CoinJudgeModel", name := "isIn", desc := "(II)Z" } : MethodName) ({ cls := "CoinJudgeModel", name := "isIn", desc := "(II)Z" } : MethodName) ∈ lw_tbl := List.mem_append_left _ (List.mem_of_getElem? (i := 142) (by decide +kernel))

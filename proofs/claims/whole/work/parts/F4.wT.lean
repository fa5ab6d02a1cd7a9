theorem cl_X14 : vwCl[17]? = some (RX14, TX14, 3) := rfl
set_option maxRecDepth 100000 in
theorem in_X14 : ∀ w ∈ u_ws RX14 TX14 3, w ∈ lw_tbl ∧ goodWord w = true := by decide +kernel
abbrev mX14_init : ks_M := (RX14, cX14_init, 1, none, "<init>")
def drX14_init : List (Nat × Instr × Nat) := [(0, .aload_n 0, 1), (1, .invokespecial 1, 3), (4, .aload_n 0, 1), (5, .bipush 8, 2), (7, .newarray .int, 2), (9, .putfield 7, 3), (12, .aload_n 0, 1), (13, .bipush 8, 2), (15, .newarray .int, 2), (17, .putfield 13, 3), (20, .aload_n 0, 1), (21, .bipush 8, 2), (23, .newarray .int, 2), (25, .putfield 16, 3), (28, .return_, 1)]
set_option maxRecDepth 100000 in
theorem daX14_init : dk_all cX14_init drX14_init = true := by decide +kernel
theorem dX14_init_0 : decode cX14_init 0 = .ok (.aload_n 0, 1) := dk_get daX14_init 0 (r := (0, .aload_n 0, 1)) rfl
theorem dX14_init_1 : decode cX14_init 1 = .ok (.invokespecial 1, 3) := dk_get daX14_init 1 (r := (1, .invokespecial 1, 3)) rfl
theorem dX14_init_4 : decode cX14_init 4 = .ok (.aload_n 0, 1) := dk_get daX14_init 2 (r := (4, .aload_n 0, 1)) rfl
theorem dX14_init_5 : decode cX14_init 5 = .ok (.bipush 8, 2) := dk_get daX14_init 3 (r := (5, .bipush 8, 2)) rfl
theorem dX14_init_7 : decode cX14_init 7 = .ok (.newarray .int, 2) := dk_get daX14_init 4 (r := (7, .newarray .int, 2)) rfl
theorem dX14_init_9 : decode cX14_init 9 = .ok (.putfield 7, 3) := dk_get daX14_init 5 (r := (9, .putfield 7, 3)) rfl
theorem dX14_init_12 : decode cX14_init 12 = .ok (.aload_n 0, 1) := dk_get daX14_init 6 (r := (12, .aload_n 0, 1)) rfl
theorem dX14_init_13 : decode cX14_init 13 = .ok (.bipush 8, 2) := dk_get daX14_init 7 (r := (13, .bipush 8, 2)) rfl
theorem dX14_init_15 : decode cX14_init 15 = .ok (.newarray .int, 2) := dk_get daX14_init 8 (r := (15, .newarray .int, 2)) rfl
theorem dX14_init_17 : decode cX14_init 17 = .ok (.putfield 13, 3) := dk_get daX14_init 9 (r := (17, .putfield 13, 3)) rfl
theorem dX14_init_20 : decode cX14_init 20 = .ok (.aload_n 0, 1) := dk_get daX14_init 10 (r := (20, .aload_n 0, 1)) rfl
theorem dX14_init_21 : decode cX14_init 21 = .ok (.bipush 8, 2) := dk_get daX14_init 11 (r := (21, .bipush 8, 2)) rfl
theorem dX14_init_23 : decode cX14_init 23 = .ok (.newarray .int, 2) := dk_get daX14_init 12 (r := (23, .newarray .int, 2)) rfl
theorem dX14_init_25 : decode cX14_init 25 = .ok (.putfield 16, 3) := dk_get daX14_init 13 (r := (25, .putfield 16, 3)) rfl
theorem dX14_init_28 : decode cX14_init 28 = .ok (.return_, 1) := dk_get daX14_init 14 (r := (28, .return_, 1)) rfl
abbrev mX14_take : ks_M := (RX14, cX14_take, 2, none, "take")
def drX14_take : List (Nat × Instr × Nat) := [(0, .aload_n 1, 1), (1, .getfield 7, 3), (4, .aload_n 0, 1), (5, .getfield 7, 3), (8, .invokestatic 19, 3), (11, .aload_n 1, 1), (12, .getfield 13, 3), (15, .aload_n 0, 1), (16, .getfield 13, 3), (19, .invokestatic 19, 3), (22, .aload_n 1, 1), (23, .getfield 16, 3), (26, .aload_n 0, 1), (27, .getfield 16, 3), (30, .invokestatic 19, 3), (33, .return_, 1)]
set_option maxRecDepth 100000 in
theorem daX14_take : dk_all cX14_take drX14_take = true := by decide +kernel
theorem dX14_take_0 : decode cX14_take 0 = .ok (.aload_n 1, 1) := dk_get daX14_take 0 (r := (0, .aload_n 1, 1)) rfl
theorem dX14_take_1 : decode cX14_take 1 = .ok (.getfield 7, 3) := dk_get daX14_take 1 (r := (1, .getfield 7, 3)) rfl
theorem dX14_take_4 : decode cX14_take 4 = .ok (.aload_n 0, 1) := dk_get daX14_take 2 (r := (4, .aload_n 0, 1)) rfl
theorem dX14_take_5 : decode cX14_take 5 = .ok (.getfield 7, 3) := dk_get daX14_take 3 (r := (5, .getfield 7, 3)) rfl
theorem dX14_take_8 : decode cX14_take 8 = .ok (.invokestatic 19, 3) := dk_get daX14_take 4 (r := (8, .invokestatic 19, 3)) rfl
theorem dX14_take_11 : decode cX14_take 11 = .ok (.aload_n 1, 1) := dk_get daX14_take 5 (r := (11, .aload_n 1, 1)) rfl
theorem dX14_take_12 : decode cX14_take 12 = .ok (.getfield 13, 3) := dk_get daX14_take 6 (r := (12, .getfield 13, 3)) rfl
theorem dX14_take_15 : decode cX14_take 15 = .ok (.aload_n 0, 1) := dk_get daX14_take 7 (r := (15, .aload_n 0, 1)) rfl
theorem dX14_take_16 : decode cX14_take 16 = .ok (.getfield 13, 3) := dk_get daX14_take 8 (r := (16, .getfield 13, 3)) rfl
theorem dX14_take_19 : decode cX14_take 19 = .ok (.invokestatic 19, 3) := dk_get daX14_take 9 (r := (19, .invokestatic 19, 3)) rfl
theorem dX14_take_22 : decode cX14_take 22 = .ok (.aload_n 1, 1) := dk_get daX14_take 10 (r := (22, .aload_n 1, 1)) rfl
theorem dX14_take_23 : decode cX14_take 23 = .ok (.getfield 16, 3) := dk_get daX14_take 11 (r := (23, .getfield 16, 3)) rfl
theorem dX14_take_26 : decode cX14_take 26 = .ok (.aload_n 0, 1) := dk_get daX14_take 12 (r := (26, .aload_n 0, 1)) rfl
theorem dX14_take_27 : decode cX14_take 27 = .ok (.getfield 16, 3) := dk_get daX14_take 13 (r := (27, .getfield 16, 3)) rfl
theorem dX14_take_30 : decode cX14_take 30 = .ok (.invokestatic 19, 3) := dk_get daX14_take 14 (r := (30, .invokestatic 19, 3)) rfl
theorem dX14_take_33 : decode cX14_take 33 = .ok (.return_, 1) := dk_get daX14_take 15 (r := (33, .return_, 1)) rfl
abbrev mX16_fromBytes : ks_M := (RX16, cX16_fromBytes, 7, none, "fromBytes")
def drX16_fromBytes : List (Nat × Instr × Nat) := [(0, .iconst 0, 1), (1, .istore 4, 2), (3, .iload 4, 2), (5, .bipush 8, 2), (7, .if_icmp .ge 72, 3), (10, .iconst 0, 1), (11, .istore 5, 2), (13, .iconst 3, 1), (14, .istore 6, 2), (16, .iload 6, 2), (18, .ifCond .lt 49, 3), (21, .iload 5, 2), (23, .bipush 8, 2), (25, .ishl, 1), (26, .aload_n 0, 1), (27, .iload_n 1, 1), (28, .iload_n 2, 1), (29, .ifCond .eq 16, 3), (32, .bipush 31, 2), (34, .iconst 4, 1), (35, .iload 4, 2), (37, .imul, 1), (38, .isub, 1), (39, .iload 6, 2), (41, .isub, 1), (42, .goto 10, 3), (45, .iconst 4, 1), (46, .iload 4, 2), (48, .imul, 1), (49, .iload 6, 2), (51, .iadd, 1), (52, .iadd, 1), (53, .baload, 1), (54, .sipush 255, 3), (57, .iand, 1), (58, .ior, 1), (59, .istore 5, 2), (61, .iinc 6 (-1), 3), (64, .goto (-48), 3), (67, .aload_n 3, 1), (68, .iload 4, 2), (70, .iload 5, 2), (72, .iastore, 1), (73, .iinc 4 1, 3), (76, .goto (-73), 3), (79, .return_, 1)]
set_option maxRecDepth 100000 in
theorem daX16_fromBytes : dk_all cX16_fromBytes drX16_fromBytes = true := by decide +kernel
theorem dX16_fromBytes_0 : decode cX16_fromBytes 0 = .ok (.iconst 0, 1) := dk_get daX16_fromBytes 0 (r := (0, .iconst 0, 1)) rfl
theorem dX16_fromBytes_1 : decode cX16_fromBytes 1 = .ok (.istore 4, 2) := dk_get daX16_fromBytes 1 (r := (1, .istore 4, 2)) rfl
theorem dX16_fromBytes_3 : decode cX16_fromBytes 3 = .ok (.iload 4, 2) := dk_get daX16_fromBytes 2 (r := (3, .iload 4, 2)) rfl
theorem dX16_fromBytes_5 : decode cX16_fromBytes 5 = .ok (.bipush 8, 2) := dk_get daX16_fromBytes 3 (r := (5, .bipush 8, 2)) rfl
theorem dX16_fromBytes_7 : decode cX16_fromBytes 7 = .ok (.if_icmp .ge 72, 3) := dk_get daX16_fromBytes 4 (r := (7, .if_icmp .ge 72, 3)) rfl
theorem dX16_fromBytes_10 : decode cX16_fromBytes 10 = .ok (.iconst 0, 1) := dk_get daX16_fromBytes 5 (r := (10, .iconst 0, 1)) rfl
theorem dX16_fromBytes_11 : decode cX16_fromBytes 11 = .ok (.istore 5, 2) := dk_get daX16_fromBytes 6 (r := (11, .istore 5, 2)) rfl
theorem dX16_fromBytes_13 : decode cX16_fromBytes 13 = .ok (.iconst 3, 1) := dk_get daX16_fromBytes 7 (r := (13, .iconst 3, 1)) rfl
theorem dX16_fromBytes_14 : decode cX16_fromBytes 14 = .ok (.istore 6, 2) := dk_get daX16_fromBytes 8 (r := (14, .istore 6, 2)) rfl
theorem dX16_fromBytes_16 : decode cX16_fromBytes 16 = .ok (.iload 6, 2) := dk_get daX16_fromBytes 9 (r := (16, .iload 6, 2)) rfl
theorem dX16_fromBytes_18 : decode cX16_fromBytes 18 = .ok (.ifCond .lt 49, 3) := dk_get daX16_fromBytes 10 (r := (18, .ifCond .lt 49, 3)) rfl
theorem dX16_fromBytes_21 : decode cX16_fromBytes 21 = .ok (.iload 5, 2) := dk_get daX16_fromBytes 11 (r := (21, .iload 5, 2)) rfl
theorem dX16_fromBytes_23 : decode cX16_fromBytes 23 = .ok (.bipush 8, 2) := dk_get daX16_fromBytes 12 (r := (23, .bipush 8, 2)) rfl
theorem dX16_fromBytes_25 : decode cX16_fromBytes 25 = .ok (.ishl, 1) := dk_get daX16_fromBytes 13 (r := (25, .ishl, 1)) rfl
theorem dX16_fromBytes_26 : decode cX16_fromBytes 26 = .ok (.aload_n 0, 1) := dk_get daX16_fromBytes 14 (r := (26, .aload_n 0, 1)) rfl
theorem dX16_fromBytes_27 : decode cX16_fromBytes 27 = .ok (.iload_n 1, 1) := dk_get daX16_fromBytes 15 (r := (27, .iload_n 1, 1)) rfl
theorem dX16_fromBytes_28 : decode cX16_fromBytes 28 = .ok (.iload_n 2, 1) := dk_get daX16_fromBytes 16 (r := (28, .iload_n 2, 1)) rfl
theorem dX16_fromBytes_29 : decode cX16_fromBytes 29 = .ok (.ifCond .eq 16, 3) := dk_get daX16_fromBytes 17 (r := (29, .ifCond .eq 16, 3)) rfl
theorem dX16_fromBytes_32 : decode cX16_fromBytes 32 = .ok (.bipush 31, 2) := dk_get daX16_fromBytes 18 (r := (32, .bipush 31, 2)) rfl
theorem dX16_fromBytes_34 : decode cX16_fromBytes 34 = .ok (.iconst 4, 1) := dk_get daX16_fromBytes 19 (r := (34, .iconst 4, 1)) rfl
theorem dX16_fromBytes_35 : decode cX16_fromBytes 35 = .ok (.iload 4, 2) := dk_get daX16_fromBytes 20 (r := (35, .iload 4, 2)) rfl
theorem dX16_fromBytes_37 : decode cX16_fromBytes 37 = .ok (.imul, 1) := dk_get daX16_fromBytes 21 (r := (37, .imul, 1)) rfl
theorem dX16_fromBytes_38 : decode cX16_fromBytes 38 = .ok (.isub, 1) := dk_get daX16_fromBytes 22 (r := (38, .isub, 1)) rfl
theorem dX16_fromBytes_39 : decode cX16_fromBytes 39 = .ok (.iload 6, 2) := dk_get daX16_fromBytes 23 (r := (39, .iload 6, 2)) rfl
theorem dX16_fromBytes_41 : decode cX16_fromBytes 41 = .ok (.isub, 1) := dk_get daX16_fromBytes 24 (r := (41, .isub, 1)) rfl
theorem dX16_fromBytes_42 : decode cX16_fromBytes 42 = .ok (.goto 10, 3) := dk_get daX16_fromBytes 25 (r := (42, .goto 10, 3)) rfl
theorem dX16_fromBytes_45 : decode cX16_fromBytes 45 = .ok (.iconst 4, 1) := dk_get daX16_fromBytes 26 (r := (45, .iconst 4, 1)) rfl
theorem dX16_fromBytes_46 : decode cX16_fromBytes 46 = .ok (.iload 4, 2) := dk_get daX16_fromBytes 27 (r := (46, .iload 4, 2)) rfl
theorem dX16_fromBytes_48 : decode cX16_fromBytes 48 = .ok (.imul, 1) := dk_get daX16_fromBytes 28 (r := (48, .imul, 1)) rfl
theorem dX16_fromBytes_49 : decode cX16_fromBytes 49 = .ok (.iload 6, 2) := dk_get daX16_fromBytes 29 (r := (49, .iload 6, 2)) rfl
theorem dX16_fromBytes_51 : decode cX16_fromBytes 51 = .ok (.iadd, 1) := dk_get daX16_fromBytes 30 (r := (51, .iadd, 1)) rfl
theorem dX16_fromBytes_52 : decode cX16_fromBytes 52 = .ok (.iadd, 1) := dk_get daX16_fromBytes 31 (r := (52, .iadd, 1)) rfl
theorem dX16_fromBytes_53 : decode cX16_fromBytes 53 = .ok (.baload, 1) := dk_get daX16_fromBytes 32 (r := (53, .baload, 1)) rfl
theorem dX16_fromBytes_54 : decode cX16_fromBytes 54 = .ok (.sipush 255, 3) := dk_get daX16_fromBytes 33 (r := (54, .sipush 255, 3)) rfl
theorem dX16_fromBytes_57 : decode cX16_fromBytes 57 = .ok (.iand, 1) := dk_get daX16_fromBytes 34 (r := (57, .iand, 1)) rfl
theorem dX16_fromBytes_58 : decode cX16_fromBytes 58 = .ok (.ior, 1) := dk_get daX16_fromBytes 35 (r := (58, .ior, 1)) rfl
theorem dX16_fromBytes_59 : decode cX16_fromBytes 59 = .ok (.istore 5, 2) := dk_get daX16_fromBytes 36 (r := (59, .istore 5, 2)) rfl
theorem dX16_fromBytes_61 : decode cX16_fromBytes 61 = .ok (.iinc 6 (-1), 3) := dk_get daX16_fromBytes 37 (r := (61, .iinc 6 (-1), 3)) rfl
theorem dX16_fromBytes_64 : decode cX16_fromBytes 64 = .ok (.goto (-48), 3) := dk_get daX16_fromBytes 38 (r := (64, .goto (-48), 3)) rfl
theorem dX16_fromBytes_67 : decode cX16_fromBytes 67 = .ok (.aload_n 3, 1) := dk_get daX16_fromBytes 39 (r := (67, .aload_n 3, 1)) rfl
theorem dX16_fromBytes_68 : decode cX16_fromBytes 68 = .ok (.iload 4, 2) := dk_get daX16_fromBytes 40 (r := (68, .iload 4, 2)) rfl
theorem dX16_fromBytes_70 : decode cX16_fromBytes 70 = .ok (.iload 5, 2) := dk_get daX16_fromBytes 41 (r := (70, .iload 5, 2)) rfl
theorem dX16_fromBytes_72 : decode cX16_fromBytes 72 = .ok (.iastore, 1) := dk_get daX16_fromBytes 42 (r := (72, .iastore, 1)) rfl
theorem dX16_fromBytes_73 : decode cX16_fromBytes 73 = .ok (.iinc 4 1, 3) := dk_get daX16_fromBytes 43 (r := (73, .iinc 4 1, 3)) rfl
theorem dX16_fromBytes_76 : decode cX16_fromBytes 76 = .ok (.goto (-73), 3) := dk_get daX16_fromBytes 44 (r := (76, .goto (-73), 3)) rfl
theorem dX16_fromBytes_79 : decode cX16_fromBytes 79 = .ok (.return_, 1) := dk_get daX16_fromBytes 45 (r := (79, .return_, 1)) rfl
abbrev mX16_toBytes : ks_M := (RX16, cX16_toBytes, 4, none, "toBytes")
def drX16_toBytes : List (Nat × Instr × Nat) := [(0, .iconst 0, 1), (1, .istore_n 3, 1), (2, .iload_n 3, 1), (3, .bipush 32, 2), (5, .if_icmp .ge 33, 3), (8, .aload_n 1, 1), (9, .iload_n 2, 1), (10, .iload_n 3, 1), (11, .iadd, 1), (12, .aload_n 0, 1), (13, .bipush 7, 2), (15, .iload_n 3, 1), (16, .iconst 4, 1), (17, .idiv, 1), (18, .isub, 1), (19, .iaload, 1), (20, .bipush 24, 2), (22, .bipush 8, 2), (24, .iload_n 3, 1), (25, .iconst 4, 1), (26, .irem, 1), (27, .imul, 1), (28, .isub, 1), (29, .iushr, 1), (30, .i2b, 1), (31, .bastore, 1), (32, .iinc 3 1, 3), (35, .goto (-33), 3), (38, .return_, 1)]
set_option maxRecDepth 100000 in
theorem daX16_toBytes : dk_all cX16_toBytes drX16_toBytes = true := by decide +kernel
theorem dX16_toBytes_0 : decode cX16_toBytes 0 = .ok (.iconst 0, 1) := dk_get daX16_toBytes 0 (r := (0, .iconst 0, 1)) rfl
theorem dX16_toBytes_1 : decode cX16_toBytes 1 = .ok (.istore_n 3, 1) := dk_get daX16_toBytes 1 (r := (1, .istore_n 3, 1)) rfl
theorem dX16_toBytes_2 : decode cX16_toBytes 2 = .ok (.iload_n 3, 1) := dk_get daX16_toBytes 2 (r := (2, .iload_n 3, 1)) rfl
theorem dX16_toBytes_3 : decode cX16_toBytes 3 = .ok (.bipush 32, 2) := dk_get daX16_toBytes 3 (r := (3, .bipush 32, 2)) rfl
theorem dX16_toBytes_5 : decode cX16_toBytes 5 = .ok (.if_icmp .ge 33, 3) := dk_get daX16_toBytes 4 (r := (5, .if_icmp .ge 33, 3)) rfl
theorem dX16_toBytes_8 : decode cX16_toBytes 8 = .ok (.aload_n 1, 1) := dk_get daX16_toBytes 5 (r := (8, .aload_n 1, 1)) rfl
theorem dX16_toBytes_9 : decode cX16_toBytes 9 = .ok (.iload_n 2, 1) := dk_get daX16_toBytes 6 (r := (9, .iload_n 2, 1)) rfl
theorem dX16_toBytes_10 : decode cX16_toBytes 10 = .ok (.iload_n 3, 1) := dk_get daX16_toBytes 7 (r := (10, .iload_n 3, 1)) rfl
theorem dX16_toBytes_11 : decode cX16_toBytes 11 = .ok (.iadd, 1) := dk_get daX16_toBytes 8 (r := (11, .iadd, 1)) rfl
theorem dX16_toBytes_12 : decode cX16_toBytes 12 = .ok (.aload_n 0, 1) := dk_get daX16_toBytes 9 (r := (12, .aload_n 0, 1)) rfl
theorem dX16_toBytes_13 : decode cX16_toBytes 13 = .ok (.bipush 7, 2) := dk_get daX16_toBytes 10 (r := (13, .bipush 7, 2)) rfl
theorem dX16_toBytes_15 : decode cX16_toBytes 15 = .ok (.iload_n 3, 1) := dk_get daX16_toBytes 11 (r := (15, .iload_n 3, 1)) rfl
theorem dX16_toBytes_16 : decode cX16_toBytes 16 = .ok (.iconst 4, 1) := dk_get daX16_toBytes 12 (r := (16, .iconst 4, 1)) rfl
theorem dX16_toBytes_17 : decode cX16_toBytes 17 = .ok (.idiv, 1) := dk_get daX16_toBytes 13 (r := (17, .idiv, 1)) rfl
theorem dX16_toBytes_18 : decode cX16_toBytes 18 = .ok (.isub, 1) := dk_get daX16_toBytes 14 (r := (18, .isub, 1)) rfl
theorem dX16_toBytes_19 : decode cX16_toBytes 19 = .ok (.iaload, 1) := dk_get daX16_toBytes 15 (r := (19, .iaload, 1)) rfl
theorem dX16_toBytes_20 : decode cX16_toBytes 20 = .ok (.bipush 24, 2) := dk_get daX16_toBytes 16 (r := (20, .bipush 24, 2)) rfl
theorem dX16_toBytes_22 : decode cX16_toBytes 22 = .ok (.bipush 8, 2) := dk_get daX16_toBytes 17 (r := (22, .bipush 8, 2)) rfl
theorem dX16_toBytes_24 : decode cX16_toBytes 24 = .ok (.iload_n 3, 1) := dk_get daX16_toBytes 18 (r := (24, .iload_n 3, 1)) rfl
theorem dX16_toBytes_25 : decode cX16_toBytes 25 = .ok (.iconst 4, 1) := dk_get daX16_toBytes 19 (r := (25, .iconst 4, 1)) rfl
theorem dX16_toBytes_26 : decode cX16_toBytes 26 = .ok (.irem, 1) := dk_get daX16_toBytes 20 (r := (26, .irem, 1)) rfl
theorem dX16_toBytes_27 : decode cX16_toBytes 27 = .ok (.imul, 1) := dk_get daX16_toBytes 21 (r := (27, .imul, 1)) rfl
theorem dX16_toBytes_28 : decode cX16_toBytes 28 = .ok (.isub, 1) := dk_get daX16_toBytes 22 (r := (28, .isub, 1)) rfl
theorem dX16_toBytes_29 : decode cX16_toBytes 29 = .ok (.iushr, 1) := dk_get daX16_toBytes 23 (r := (29, .iushr, 1)) rfl
theorem dX16_toBytes_30 : decode cX16_toBytes 30 = .ok (.i2b, 1) := dk_get daX16_toBytes 24 (r := (30, .i2b, 1)) rfl
theorem dX16_toBytes_31 : decode cX16_toBytes 31 = .ok (.bastore, 1) := dk_get daX16_toBytes 25 (r := (31, .bastore, 1)) rfl
theorem dX16_toBytes_32 : decode cX16_toBytes 32 = .ok (.iinc 3 1, 3) := dk_get daX16_toBytes 26 (r := (32, .iinc 3 1, 3)) rfl
theorem dX16_toBytes_35 : decode cX16_toBytes 35 = .ok (.goto (-33), 3) := dk_get daX16_toBytes 27 (r := (35, .goto (-33), 3)) rfl
theorem dX16_toBytes_38 : decode cX16_toBytes 38 = .ok (.return_, 1) := dk_get daX16_toBytes 28 (r := (38, .return_, 1)) rfl
abbrev mX16_isPrime : ks_M := (RX16, cX16_isPrime, 2, (some .boolean), "isPrime")
def drX16_isPrime : List (Nat × Instr × Nat) := [(0, .iconst 2, 1), (1, .istore_n 1, 1), (2, .iload_n 1, 1), (3, .iload_n 1, 1), (4, .imul, 1), (5, .iload_n 0, 1), (6, .if_icmp .gt 17, 3), (9, .iload_n 0, 1), (10, .iload_n 1, 1), (11, .irem, 1), (12, .ifCond .ne 5, 3), (15, .iconst 0, 1), (16, .ireturn, 1), (17, .iinc 1 1, 3), (20, .goto (-18), 3), (23, .iconst 1, 1), (24, .ireturn, 1)]
set_option maxRecDepth 100000 in
theorem daX16_isPrime : dk_all cX16_isPrime drX16_isPrime = true := by decide +kernel
theorem dX16_isPrime_0 : decode cX16_isPrime 0 = .ok (.iconst 2, 1) := dk_get daX16_isPrime 0 (r := (0, .iconst 2, 1)) rfl
theorem dX16_isPrime_1 : decode cX16_isPrime 1 = .ok (.istore_n 1, 1) := dk_get daX16_isPrime 1 (r := (1, .istore_n 1, 1)) rfl
theorem dX16_isPrime_2 : decode cX16_isPrime 2 = .ok (.iload_n 1, 1) := dk_get daX16_isPrime 2 (r := (2, .iload_n 1, 1)) rfl
theorem dX16_isPrime_3 : decode cX16_isPrime 3 = .ok (.iload_n 1, 1) := dk_get daX16_isPrime 3 (r := (3, .iload_n 1, 1)) rfl
theorem dX16_isPrime_4 : decode cX16_isPrime 4 = .ok (.imul, 1) := dk_get daX16_isPrime 4 (r := (4, .imul, 1)) rfl
theorem dX16_isPrime_5 : decode cX16_isPrime 5 = .ok (.iload_n 0, 1) := dk_get daX16_isPrime 5 (r := (5, .iload_n 0, 1)) rfl
theorem dX16_isPrime_6 : decode cX16_isPrime 6 = .ok (.if_icmp .gt 17, 3) := dk_get daX16_isPrime 6 (r := (6, .if_icmp .gt 17, 3)) rfl
theorem dX16_isPrime_9 : decode cX16_isPrime 9 = .ok (.iload_n 0, 1) := dk_get daX16_isPrime 7 (r := (9, .iload_n 0, 1)) rfl
theorem dX16_isPrime_10 : decode cX16_isPrime 10 = .ok (.iload_n 1, 1) := dk_get daX16_isPrime 8 (r := (10, .iload_n 1, 1)) rfl
theorem dX16_isPrime_11 : decode cX16_isPrime 11 = .ok (.irem, 1) := dk_get daX16_isPrime 9 (r := (11, .irem, 1)) rfl
theorem dX16_isPrime_12 : decode cX16_isPrime 12 = .ok (.ifCond .ne 5, 3) := dk_get daX16_isPrime 10 (r := (12, .ifCond .ne 5, 3)) rfl
theorem dX16_isPrime_15 : decode cX16_isPrime 15 = .ok (.iconst 0, 1) := dk_get daX16_isPrime 11 (r := (15, .iconst 0, 1)) rfl
theorem dX16_isPrime_16 : decode cX16_isPrime 16 = .ok (.ireturn, 1) := dk_get daX16_isPrime 12 (r := (16, .ireturn, 1)) rfl
theorem dX16_isPrime_17 : decode cX16_isPrime 17 = .ok (.iinc 1 1, 3) := dk_get daX16_isPrime 13 (r := (17, .iinc 1 1, 3)) rfl
theorem dX16_isPrime_20 : decode cX16_isPrime 20 = .ok (.goto (-18), 3) := dk_get daX16_isPrime 14 (r := (20, .goto (-18), 3)) rfl
theorem dX16_isPrime_23 : decode cX16_isPrime 23 = .ok (.iconst 1, 1) := dk_get daX16_isPrime 15 (r := (23, .iconst 1, 1)) rfl
theorem dX16_isPrime_24 : decode cX16_isPrime 24 = .ok (.ireturn, 1) := dk_get daX16_isPrime 16 (r := (24, .ireturn, 1)) rfl
abbrev mX16_times : ks_M := (RX16, cX16_times, 6, none, "times")
def drX16_times : List (Nat × Instr × Nat) := [(0, .iconst 0, 1), (1, .istore 4, 2), (3, .iload 4, 2), (5, .iload_n 2, 1), (6, .iconst 3, 1), (7, .iadd, 1), (8, .if_icmp .ge 14, 3), (11, .aload_n 3, 1), (12, .iload 4, 2), (14, .lconst 0, 1), (15, .lastore, 1), (16, .iinc 4 1, 3), (19, .goto (-16), 3), (22, .iconst 0, 1), (23, .istore 4, 2), (25, .iload 4, 2), (27, .iload_n 2, 1), (28, .if_icmp .ge 46, 3), (31, .iconst 0, 1), (32, .istore 5, 2), (34, .iload 5, 2), (36, .iconst 3, 1), (37, .if_icmp .ge 31, 3), (40, .aload_n 3, 1), (41, .iload 4, 2), (43, .iload 5, 2), (45, .iadd, 1), (46, .dup2, 1), (47, .laload, 1), (48, .aload_n 1, 1), (49, .iload 4, 2), (51, .laload, 1), (52, .aload_n 0, 1), (53, .getfield 1, 3), (56, .iload 5, 2), (58, .laload, 1), (59, .lmul, 1), (60, .ladd, 1), (61, .lastore, 1), (62, .iinc 5 1, 3), (65, .goto (-31), 3), (68, .iinc 4 1, 3), (71, .goto (-46), 3), (74, .iconst 0, 1), (75, .istore 4, 2), (77, .iload 4, 2), (79, .iconst 1, 1), (80, .iadd, 1), (81, .iload_n 2, 1), (82, .iconst 3, 1), (83, .iadd, 1), (84, .if_icmp .ge 35, 3), (87, .aload_n 3, 1), (88, .iload 4, 2), (90, .iconst 1, 1), (91, .iadd, 1), (92, .dup2, 1), (93, .laload, 1), (94, .aload_n 3, 1), (95, .iload 4, 2), (97, .laload, 1), (98, .bipush 16, 2), (100, .lshr, 1), (101, .ladd, 1), (102, .lastore, 1), (103, .aload_n 3, 1), (104, .iload 4, 2), (106, .dup2, 1), (107, .laload, 1), (108, .ldc2_w 7, 3), (111, .land, 1), (112, .lastore, 1), (113, .iinc 4 1, 3), (116, .goto (-39), 3), (119, .return_, 1)]
set_option maxRecDepth 100000 in
theorem daX16_times : dk_all cX16_times drX16_times = true := by decide +kernel
theorem dX16_times_0 : decode cX16_times 0 = .ok (.iconst 0, 1) := dk_get daX16_times 0 (r := (0, .iconst 0, 1)) rfl
theorem dX16_times_1 : decode cX16_times 1 = .ok (.istore 4, 2) := dk_get daX16_times 1 (r := (1, .istore 4, 2)) rfl
theorem dX16_times_3 : decode cX16_times 3 = .ok (.iload 4, 2) := dk_get daX16_times 2 (r := (3, .iload 4, 2)) rfl
theorem dX16_times_5 : decode cX16_times 5 = .ok (.iload_n 2, 1) := dk_get daX16_times 3 (r := (5, .iload_n 2, 1)) rfl
theorem dX16_times_6 : decode cX16_times 6 = .ok (.iconst 3, 1) := dk_get daX16_times 4 (r := (6, .iconst 3, 1)) rfl
theorem dX16_times_7 : decode cX16_times 7 = .ok (.iadd, 1) := dk_get daX16_times 5 (r := (7, .iadd, 1)) rfl
theorem dX16_times_8 : decode cX16_times 8 = .ok (.if_icmp .ge 14, 3) := dk_get daX16_times 6 (r := (8, .if_icmp .ge 14, 3)) rfl
theorem dX16_times_11 : decode cX16_times 11 = .ok (.aload_n 3, 1) := dk_get daX16_times 7 (r := (11, .aload_n 3, 1)) rfl
theorem dX16_times_12 : decode cX16_times 12 = .ok (.iload 4, 2) := dk_get daX16_times 8 (r := (12, .iload 4, 2)) rfl
theorem dX16_times_14 : decode cX16_times 14 = .ok (.lconst 0, 1) := dk_get daX16_times 9 (r := (14, .lconst 0, 1)) rfl
theorem dX16_times_15 : decode cX16_times 15 = .ok (.lastore, 1) := dk_get daX16_times 10 (r := (15, .lastore, 1)) rfl
theorem dX16_times_16 : decode cX16_times 16 = .ok (.iinc 4 1, 3) := dk_get daX16_times 11 (r := (16, .iinc 4 1, 3)) rfl
theorem dX16_times_19 : decode cX16_times 19 = .ok (.goto (-16), 3) := dk_get daX16_times 12 (r := (19, .goto (-16), 3)) rfl
theorem dX16_times_22 : decode cX16_times 22 = .ok (.iconst 0, 1) := dk_get daX16_times 13 (r := (22, .iconst 0, 1)) rfl
theorem dX16_times_23 : decode cX16_times 23 = .ok (.istore 4, 2) := dk_get daX16_times 14 (r := (23, .istore 4, 2)) rfl
theorem dX16_times_25 : decode cX16_times 25 = .ok (.iload 4, 2) := dk_get daX16_times 15 (r := (25, .iload 4, 2)) rfl
theorem dX16_times_27 : decode cX16_times 27 = .ok (.iload_n 2, 1) := dk_get daX16_times 16 (r := (27, .iload_n 2, 1)) rfl
theorem dX16_times_28 : decode cX16_times 28 = .ok (.if_icmp .ge 46, 3) := dk_get daX16_times 17 (r := (28, .if_icmp .ge 46, 3)) rfl
theorem dX16_times_31 : decode cX16_times 31 = .ok (.iconst 0, 1) := dk_get daX16_times 18 (r := (31, .iconst 0, 1)) rfl
theorem dX16_times_32 : decode cX16_times 32 = .ok (.istore 5, 2) := dk_get daX16_times 19 (r := (32, .istore 5, 2)) rfl
theorem dX16_times_34 : decode cX16_times 34 = .ok (.iload 5, 2) := dk_get daX16_times 20 (r := (34, .iload 5, 2)) rfl
theorem dX16_times_36 : decode cX16_times 36 = .ok (.iconst 3, 1) := dk_get daX16_times 21 (r := (36, .iconst 3, 1)) rfl
theorem dX16_times_37 : decode cX16_times 37 = .ok (.if_icmp .ge 31, 3) := dk_get daX16_times 22 (r := (37, .if_icmp .ge 31, 3)) rfl
theorem dX16_times_40 : decode cX16_times 40 = .ok (.aload_n 3, 1) := dk_get daX16_times 23 (r := (40, .aload_n 3, 1)) rfl
theorem dX16_times_41 : decode cX16_times 41 = .ok (.iload 4, 2) := dk_get daX16_times 24 (r := (41, .iload 4, 2)) rfl
theorem dX16_times_43 : decode cX16_times 43 = .ok (.iload 5, 2) := dk_get daX16_times 25 (r := (43, .iload 5, 2)) rfl
theorem dX16_times_45 : decode cX16_times 45 = .ok (.iadd, 1) := dk_get daX16_times 26 (r := (45, .iadd, 1)) rfl
theorem dX16_times_46 : decode cX16_times 46 = .ok (.dup2, 1) := dk_get daX16_times 27 (r := (46, .dup2, 1)) rfl
theorem dX16_times_47 : decode cX16_times 47 = .ok (.laload, 1) := dk_get daX16_times 28 (r := (47, .laload, 1)) rfl
theorem dX16_times_48 : decode cX16_times 48 = .ok (.aload_n 1, 1) := dk_get daX16_times 29 (r := (48, .aload_n 1, 1)) rfl
theorem dX16_times_49 : decode cX16_times 49 = .ok (.iload 4, 2) := dk_get daX16_times 30 (r := (49, .iload 4, 2)) rfl
theorem dX16_times_51 : decode cX16_times 51 = .ok (.laload, 1) := dk_get daX16_times 31 (r := (51, .laload, 1)) rfl
theorem dX16_times_52 : decode cX16_times 52 = .ok (.aload_n 0, 1) := dk_get daX16_times 32 (r := (52, .aload_n 0, 1)) rfl
theorem dX16_times_53 : decode cX16_times 53 = .ok (.getfield 1, 3) := dk_get daX16_times 33 (r := (53, .getfield 1, 3)) rfl
theorem dX16_times_56 : decode cX16_times 56 = .ok (.iload 5, 2) := dk_get daX16_times 34 (r := (56, .iload 5, 2)) rfl
theorem dX16_times_58 : decode cX16_times 58 = .ok (.laload, 1) := dk_get daX16_times 35 (r := (58, .laload, 1)) rfl
theorem dX16_times_59 : decode cX16_times 59 = .ok (.lmul, 1) := dk_get daX16_times 36 (r := (59, .lmul, 1)) rfl
theorem dX16_times_60 : decode cX16_times 60 = .ok (.ladd, 1) := dk_get daX16_times 37 (r := (60, .ladd, 1)) rfl
theorem dX16_times_61 : decode cX16_times 61 = .ok (.lastore, 1) := dk_get daX16_times 38 (r := (61, .lastore, 1)) rfl
theorem dX16_times_62 : decode cX16_times 62 = .ok (.iinc 5 1, 3) := dk_get daX16_times 39 (r := (62, .iinc 5 1, 3)) rfl
theorem dX16_times_65 : decode cX16_times 65 = .ok (.goto (-31), 3) := dk_get daX16_times 40 (r := (65, .goto (-31), 3)) rfl
theorem dX16_times_68 : decode cX16_times 68 = .ok (.iinc 4 1, 3) := dk_get daX16_times 41 (r := (68, .iinc 4 1, 3)) rfl
theorem dX16_times_71 : decode cX16_times 71 = .ok (.goto (-46), 3) := dk_get daX16_times 42 (r := (71, .goto (-46), 3)) rfl
theorem dX16_times_74 : decode cX16_times 74 = .ok (.iconst 0, 1) := dk_get daX16_times 43 (r := (74, .iconst 0, 1)) rfl
theorem dX16_times_75 : decode cX16_times 75 = .ok (.istore 4, 2) := dk_get daX16_times 44 (r := (75, .istore 4, 2)) rfl
theorem dX16_times_77 : decode cX16_times 77 = .ok (.iload 4, 2) := dk_get daX16_times 45 (r := (77, .iload 4, 2)) rfl
theorem dX16_times_79 : decode cX16_times 79 = .ok (.iconst 1, 1) := dk_get daX16_times 46 (r := (79, .iconst 1, 1)) rfl
theorem dX16_times_80 : decode cX16_times 80 = .ok (.iadd, 1) := dk_get daX16_times 47 (r := (80, .iadd, 1)) rfl
theorem dX16_times_81 : decode cX16_times 81 = .ok (.iload_n 2, 1) := dk_get daX16_times 48 (r := (81, .iload_n 2, 1)) rfl
theorem dX16_times_82 : decode cX16_times 82 = .ok (.iconst 3, 1) := dk_get daX16_times 49 (r := (82, .iconst 3, 1)) rfl
theorem dX16_times_83 : decode cX16_times 83 = .ok (.iadd, 1) := dk_get daX16_times 50 (r := (83, .iadd, 1)) rfl
theorem dX16_times_84 : decode cX16_times 84 = .ok (.if_icmp .ge 35, 3) := dk_get daX16_times 51 (r := (84, .if_icmp .ge 35, 3)) rfl
theorem dX16_times_87 : decode cX16_times 87 = .ok (.aload_n 3, 1) := dk_get daX16_times 52 (r := (87, .aload_n 3, 1)) rfl
theorem dX16_times_88 : decode cX16_times 88 = .ok (.iload 4, 2) := dk_get daX16_times 53 (r := (88, .iload 4, 2)) rfl
theorem dX16_times_90 : decode cX16_times 90 = .ok (.iconst 1, 1) := dk_get daX16_times 54 (r := (90, .iconst 1, 1)) rfl
theorem dX16_times_91 : decode cX16_times 91 = .ok (.iadd, 1) := dk_get daX16_times 55 (r := (91, .iadd, 1)) rfl
theorem dX16_times_92 : decode cX16_times 92 = .ok (.dup2, 1) := dk_get daX16_times 56 (r := (92, .dup2, 1)) rfl
theorem dX16_times_93 : decode cX16_times 93 = .ok (.laload, 1) := dk_get daX16_times 57 (r := (93, .laload, 1)) rfl
theorem dX16_times_94 : decode cX16_times 94 = .ok (.aload_n 3, 1) := dk_get daX16_times 58 (r := (94, .aload_n 3, 1)) rfl
theorem dX16_times_95 : decode cX16_times 95 = .ok (.iload 4, 2) := dk_get daX16_times 59 (r := (95, .iload 4, 2)) rfl
theorem dX16_times_97 : decode cX16_times 97 = .ok (.laload, 1) := dk_get daX16_times 60 (r := (97, .laload, 1)) rfl
theorem dX16_times_98 : decode cX16_times 98 = .ok (.bipush 16, 2) := dk_get daX16_times 61 (r := (98, .bipush 16, 2)) rfl
theorem dX16_times_100 : decode cX16_times 100 = .ok (.lshr, 1) := dk_get daX16_times 62 (r := (100, .lshr, 1)) rfl
theorem dX16_times_101 : decode cX16_times 101 = .ok (.ladd, 1) := dk_get daX16_times 63 (r := (101, .ladd, 1)) rfl
theorem dX16_times_102 : decode cX16_times 102 = .ok (.lastore, 1) := dk_get daX16_times 64 (r := (102, .lastore, 1)) rfl
theorem dX16_times_103 : decode cX16_times 103 = .ok (.aload_n 3, 1) := dk_get daX16_times 65 (r := (103, .aload_n 3, 1)) rfl
theorem dX16_times_104 : decode cX16_times 104 = .ok (.iload 4, 2) := dk_get daX16_times 66 (r := (104, .iload 4, 2)) rfl
theorem dX16_times_106 : decode cX16_times 106 = .ok (.dup2, 1) := dk_get daX16_times 67 (r := (106, .dup2, 1)) rfl
theorem dX16_times_107 : decode cX16_times 107 = .ok (.laload, 1) := dk_get daX16_times 68 (r := (107, .laload, 1)) rfl
theorem dX16_times_108 : decode cX16_times 108 = .ok (.ldc2_w 7, 3) := dk_get daX16_times 69 (r := (108, .ldc2_w 7, 3)) rfl
theorem dX16_times_111 : decode cX16_times 111 = .ok (.land, 1) := dk_get daX16_times 70 (r := (111, .land, 1)) rfl
theorem dX16_times_112 : decode cX16_times 112 = .ok (.lastore, 1) := dk_get daX16_times 71 (r := (112, .lastore, 1)) rfl
theorem dX16_times_113 : decode cX16_times 113 = .ok (.iinc 4 1, 3) := dk_get daX16_times 72 (r := (113, .iinc 4 1, 3)) rfl
theorem dX16_times_116 : decode cX16_times 116 = .ok (.goto (-39), 3) := dk_get daX16_times 73 (r := (116, .goto (-39), 3)) rfl
theorem dX16_times_119 : decode cX16_times 119 = .ok (.return_, 1) := dk_get daX16_times 74 (r := (119, .return_, 1)) rfl
abbrev mX16_fraction : ks_M := (RX16, cX16_fraction, 10, (some .int), "fraction")
def drX16_fraction : List (Nat × Instr × Nat) := [(0, .lconst 0, 1), (1, .lstore_n 3, 1), (2, .bipush 35, 2), (4, .istore 5, 2), (6, .iload 5, 2), (8, .ifCond .lt 143, 3), (11, .lload_n 3, 1), (12, .lconst 1, 1), (13, .iload 5, 2), (15, .lshl, 1), (16, .lor, 1), (17, .lstore 6, 2), (19, .iconst 0, 1), (20, .istore 8, 2), (22, .iload 8, 2), (24, .iconst 3, 1), (25, .if_icmp .ge 28, 3), (28, .aload_n 0, 1), (29, .getfield 1, 3), (32, .iload 8, 2), (34, .lload 6, 2), (36, .bipush 16, 2), (38, .iload 8, 2), (40, .imul, 1), (41, .lshr, 1), (42, .ldc2_w 7, 3), (45, .land, 1), (46, .lastore, 1), (47, .iinc 8 1, 3), (50, .goto (-28), 3), (53, .aload_n 0, 1), (54, .aload_n 0, 1), (55, .getfield 1, 3), (58, .iconst 3, 1), (59, .aload_n 0, 1), (60, .getfield 9, 3), (63, .invokevirtual 12, 3), (66, .aload_n 0, 1), (67, .aload_n 0, 1), (68, .getfield 9, 3), (71, .bipush 6, 2), (73, .aload_n 0, 1), (74, .getfield 16, 3), (77, .invokevirtual 12, 3), (80, .iload_n 2, 1), (81, .ifCond .eq 35, 3), (84, .aload_n 0, 1), (85, .getfield 16, 3), (88, .bipush 6, 2), (90, .laload, 1), (91, .aload_n 0, 1), (92, .getfield 16, 3), (95, .bipush 7, 2), (97, .laload, 1), (98, .bipush 16, 2), (100, .lshl, 1), (101, .lor, 1), (102, .aload_n 0, 1), (103, .getfield 16, 3), (106, .bipush 8, 2), (108, .laload, 1), (109, .bipush 32, 2), (111, .lshl, 1), (112, .lor, 1), (113, .goto 19, 3), (116, .aload_n 0, 1), (117, .getfield 9, 3), (120, .iconst 4, 1), (121, .laload, 1), (122, .aload_n 0, 1), (123, .getfield 9, 3), (126, .iconst 5, 1), (127, .laload, 1), (128, .bipush 16, 2), (130, .lshl, 1), (131, .lor, 1), (132, .lstore 8, 2), (134, .lload 8, 2), (136, .iload_n 1, 1), (137, .i2l, 1), (138, .lcmp, 1), (139, .ifCond .ge 6, 3), (142, .lload 6, 2), (144, .lstore_n 3, 1), (145, .iinc 5 (-1), 3), (148, .goto (-142), 3), (151, .lload_n 3, 1), (152, .l2i, 1), (153, .ireturn, 1)]
set_option maxRecDepth 100000 in
theorem daX16_fraction : dk_all cX16_fraction drX16_fraction = true := by decide +kernel
theorem dX16_fraction_0 : decode cX16_fraction 0 = .ok (.lconst 0, 1) := dk_get daX16_fraction 0 (r := (0, .lconst 0, 1)) rfl
theorem dX16_fraction_1 : decode cX16_fraction 1 = .ok (.lstore_n 3, 1) := dk_get daX16_fraction 1 (r := (1, .lstore_n 3, 1)) rfl
theorem dX16_fraction_2 : decode cX16_fraction 2 = .ok (.bipush 35, 2) := dk_get daX16_fraction 2 (r := (2, .bipush 35, 2)) rfl
theorem dX16_fraction_4 : decode cX16_fraction 4 = .ok (.istore 5, 2) := dk_get daX16_fraction 3 (r := (4, .istore 5, 2)) rfl
theorem dX16_fraction_6 : decode cX16_fraction 6 = .ok (.iload 5, 2) := dk_get daX16_fraction 4 (r := (6, .iload 5, 2)) rfl
theorem dX16_fraction_8 : decode cX16_fraction 8 = .ok (.ifCond .lt 143, 3) := dk_get daX16_fraction 5 (r := (8, .ifCond .lt 143, 3)) rfl
theorem dX16_fraction_11 : decode cX16_fraction 11 = .ok (.lload_n 3, 1) := dk_get daX16_fraction 6 (r := (11, .lload_n 3, 1)) rfl
theorem dX16_fraction_12 : decode cX16_fraction 12 = .ok (.lconst 1, 1) := dk_get daX16_fraction 7 (r := (12, .lconst 1, 1)) rfl
theorem dX16_fraction_13 : decode cX16_fraction 13 = .ok (.iload 5, 2) := dk_get daX16_fraction 8 (r := (13, .iload 5, 2)) rfl
theorem dX16_fraction_15 : decode cX16_fraction 15 = .ok (.lshl, 1) := dk_get daX16_fraction 9 (r := (15, .lshl, 1)) rfl
theorem dX16_fraction_16 : decode cX16_fraction 16 = .ok (.lor, 1) := dk_get daX16_fraction 10 (r := (16, .lor, 1)) rfl
theorem dX16_fraction_17 : decode cX16_fraction 17 = .ok (.lstore 6, 2) := dk_get daX16_fraction 11 (r := (17, .lstore 6, 2)) rfl
theorem dX16_fraction_19 : decode cX16_fraction 19 = .ok (.iconst 0, 1) := dk_get daX16_fraction 12 (r := (19, .iconst 0, 1)) rfl
theorem dX16_fraction_20 : decode cX16_fraction 20 = .ok (.istore 8, 2) := dk_get daX16_fraction 13 (r := (20, .istore 8, 2)) rfl
theorem dX16_fraction_22 : decode cX16_fraction 22 = .ok (.iload 8, 2) := dk_get daX16_fraction 14 (r := (22, .iload 8, 2)) rfl
theorem dX16_fraction_24 : decode cX16_fraction 24 = .ok (.iconst 3, 1) := dk_get daX16_fraction 15 (r := (24, .iconst 3, 1)) rfl
theorem dX16_fraction_25 : decode cX16_fraction 25 = .ok (.if_icmp .ge 28, 3) := dk_get daX16_fraction 16 (r := (25, .if_icmp .ge 28, 3)) rfl
theorem dX16_fraction_28 : decode cX16_fraction 28 = .ok (.aload_n 0, 1) := dk_get daX16_fraction 17 (r := (28, .aload_n 0, 1)) rfl
theorem dX16_fraction_29 : decode cX16_fraction 29 = .ok (.getfield 1, 3) := dk_get daX16_fraction 18 (r := (29, .getfield 1, 3)) rfl
theorem dX16_fraction_32 : decode cX16_fraction 32 = .ok (.iload 8, 2) := dk_get daX16_fraction 19 (r := (32, .iload 8, 2)) rfl
theorem dX16_fraction_34 : decode cX16_fraction 34 = .ok (.lload 6, 2) := dk_get daX16_fraction 20 (r := (34, .lload 6, 2)) rfl
theorem dX16_fraction_36 : decode cX16_fraction 36 = .ok (.bipush 16, 2) := dk_get daX16_fraction 21 (r := (36, .bipush 16, 2)) rfl
theorem dX16_fraction_38 : decode cX16_fraction 38 = .ok (.iload 8, 2) := dk_get daX16_fraction 22 (r := (38, .iload 8, 2)) rfl
theorem dX16_fraction_40 : decode cX16_fraction 40 = .ok (.imul, 1) := dk_get daX16_fraction 23 (r := (40, .imul, 1)) rfl
theorem dX16_fraction_41 : decode cX16_fraction 41 = .ok (.lshr, 1) := dk_get daX16_fraction 24 (r := (41, .lshr, 1)) rfl
theorem dX16_fraction_42 : decode cX16_fraction 42 = .ok (.ldc2_w 7, 3) := dk_get daX16_fraction 25 (r := (42, .ldc2_w 7, 3)) rfl
theorem dX16_fraction_45 : decode cX16_fraction 45 = .ok (.land, 1) := dk_get daX16_fraction 26 (r := (45, .land, 1)) rfl
theorem dX16_fraction_46 : decode cX16_fraction 46 = .ok (.lastore, 1) := dk_get daX16_fraction 27 (r := (46, .lastore, 1)) rfl
theorem dX16_fraction_47 : decode cX16_fraction 47 = .ok (.iinc 8 1, 3) := dk_get daX16_fraction 28 (r := (47, .iinc 8 1, 3)) rfl
theorem dX16_fraction_50 : decode cX16_fraction 50 = .ok (.goto (-28), 3) := dk_get daX16_fraction 29 (r := (50, .goto (-28), 3)) rfl
theorem dX16_fraction_53 : decode cX16_fraction 53 = .ok (.aload_n 0, 1) := dk_get daX16_fraction 30 (r := (53, .aload_n 0, 1)) rfl
theorem dX16_fraction_54 : decode cX16_fraction 54 = .ok (.aload_n 0, 1) := dk_get daX16_fraction 31 (r := (54, .aload_n 0, 1)) rfl
theorem dX16_fraction_55 : decode cX16_fraction 55 = .ok (.getfield 1, 3) := dk_get daX16_fraction 32 (r := (55, .getfield 1, 3)) rfl
theorem dX16_fraction_58 : decode cX16_fraction 58 = .ok (.iconst 3, 1) := dk_get daX16_fraction 33 (r := (58, .iconst 3, 1)) rfl
theorem dX16_fraction_59 : decode cX16_fraction 59 = .ok (.aload_n 0, 1) := dk_get daX16_fraction 34 (r := (59, .aload_n 0, 1)) rfl
theorem dX16_fraction_60 : decode cX16_fraction 60 = .ok (.getfield 9, 3) := dk_get daX16_fraction 35 (r := (60, .getfield 9, 3)) rfl
theorem dX16_fraction_63 : decode cX16_fraction 63 = .ok (.invokevirtual 12, 3) := dk_get daX16_fraction 36 (r := (63, .invokevirtual 12, 3)) rfl
theorem dX16_fraction_66 : decode cX16_fraction 66 = .ok (.aload_n 0, 1) := dk_get daX16_fraction 37 (r := (66, .aload_n 0, 1)) rfl
theorem dX16_fraction_67 : decode cX16_fraction 67 = .ok (.aload_n 0, 1) := dk_get daX16_fraction 38 (r := (67, .aload_n 0, 1)) rfl
theorem dX16_fraction_68 : decode cX16_fraction 68 = .ok (.getfield 9, 3) := dk_get daX16_fraction 39 (r := (68, .getfield 9, 3)) rfl
theorem dX16_fraction_71 : decode cX16_fraction 71 = .ok (.bipush 6, 2) := dk_get daX16_fraction 40 (r := (71, .bipush 6, 2)) rfl
theorem dX16_fraction_73 : decode cX16_fraction 73 = .ok (.aload_n 0, 1) := dk_get daX16_fraction 41 (r := (73, .aload_n 0, 1)) rfl
theorem dX16_fraction_74 : decode cX16_fraction 74 = .ok (.getfield 16, 3) := dk_get daX16_fraction 42 (r := (74, .getfield 16, 3)) rfl
theorem dX16_fraction_77 : decode cX16_fraction 77 = .ok (.invokevirtual 12, 3) := dk_get daX16_fraction 43 (r := (77, .invokevirtual 12, 3)) rfl
theorem dX16_fraction_80 : decode cX16_fraction 80 = .ok (.iload_n 2, 1) := dk_get daX16_fraction 44 (r := (80, .iload_n 2, 1)) rfl
theorem dX16_fraction_81 : decode cX16_fraction 81 = .ok (.ifCond .eq 35, 3) := dk_get daX16_fraction 45 (r := (81, .ifCond .eq 35, 3)) rfl
theorem dX16_fraction_84 : decode cX16_fraction 84 = .ok (.aload_n 0, 1) := dk_get daX16_fraction 46 (r := (84, .aload_n 0, 1)) rfl
theorem dX16_fraction_85 : decode cX16_fraction 85 = .ok (.getfield 16, 3) := dk_get daX16_fraction 47 (r := (85, .getfield 16, 3)) rfl
theorem dX16_fraction_88 : decode cX16_fraction 88 = .ok (.bipush 6, 2) := dk_get daX16_fraction 48 (r := (88, .bipush 6, 2)) rfl
theorem dX16_fraction_90 : decode cX16_fraction 90 = .ok (.laload, 1) := dk_get daX16_fraction 49 (r := (90, .laload, 1)) rfl
theorem dX16_fraction_91 : decode cX16_fraction 91 = .ok (.aload_n 0, 1) := dk_get daX16_fraction 50 (r := (91, .aload_n 0, 1)) rfl
theorem dX16_fraction_92 : decode cX16_fraction 92 = .ok (.getfield 16, 3) := dk_get daX16_fraction 51 (r := (92, .getfield 16, 3)) rfl
theorem dX16_fraction_95 : decode cX16_fraction 95 = .ok (.bipush 7, 2) := dk_get daX16_fraction 52 (r := (95, .bipush 7, 2)) rfl
theorem dX16_fraction_97 : decode cX16_fraction 97 = .ok (.laload, 1) := dk_get daX16_fraction 53 (r := (97, .laload, 1)) rfl
theorem dX16_fraction_98 : decode cX16_fraction 98 = .ok (.bipush 16, 2) := dk_get daX16_fraction 54 (r := (98, .bipush 16, 2)) rfl
theorem dX16_fraction_100 : decode cX16_fraction 100 = .ok (.lshl, 1) := dk_get daX16_fraction 55 (r := (100, .lshl, 1)) rfl
theorem dX16_fraction_101 : decode cX16_fraction 101 = .ok (.lor, 1) := dk_get daX16_fraction 56 (r := (101, .lor, 1)) rfl
theorem dX16_fraction_102 : decode cX16_fraction 102 = .ok (.aload_n 0, 1) := dk_get daX16_fraction 57 (r := (102, .aload_n 0, 1)) rfl
theorem dX16_fraction_103 : decode cX16_fraction 103 = .ok (.getfield 16, 3) := dk_get daX16_fraction 58 (r := (103, .getfield 16, 3)) rfl
theorem dX16_fraction_106 : decode cX16_fraction 106 = .ok (.bipush 8, 2) := dk_get daX16_fraction 59 (r := (106, .bipush 8, 2)) rfl
theorem dX16_fraction_108 : decode cX16_fraction 108 = .ok (.laload, 1) := dk_get daX16_fraction 60 (r := (108, .laload, 1)) rfl
theorem dX16_fraction_109 : decode cX16_fraction 109 = .ok (.bipush 32, 2) := dk_get daX16_fraction 61 (r := (109, .bipush 32, 2)) rfl
theorem dX16_fraction_111 : decode cX16_fraction 111 = .ok (.lshl, 1) := dk_get daX16_fraction 62 (r := (111, .lshl, 1)) rfl
theorem dX16_fraction_112 : decode cX16_fraction 112 = .ok (.lor, 1) := dk_get daX16_fraction 63 (r := (112, .lor, 1)) rfl
theorem dX16_fraction_113 : decode cX16_fraction 113 = .ok (.goto 19, 3) := dk_get daX16_fraction 64 (r := (113, .goto 19, 3)) rfl
theorem dX16_fraction_116 : decode cX16_fraction 116 = .ok (.aload_n 0, 1) := dk_get daX16_fraction 65 (r := (116, .aload_n 0, 1)) rfl
theorem dX16_fraction_117 : decode cX16_fraction 117 = .ok (.getfield 9, 3) := dk_get daX16_fraction 66 (r := (117, .getfield 9, 3)) rfl
theorem dX16_fraction_120 : decode cX16_fraction 120 = .ok (.iconst 4, 1) := dk_get daX16_fraction 67 (r := (120, .iconst 4, 1)) rfl
theorem dX16_fraction_121 : decode cX16_fraction 121 = .ok (.laload, 1) := dk_get daX16_fraction 68 (r := (121, .laload, 1)) rfl
theorem dX16_fraction_122 : decode cX16_fraction 122 = .ok (.aload_n 0, 1) := dk_get daX16_fraction 69 (r := (122, .aload_n 0, 1)) rfl
theorem dX16_fraction_123 : decode cX16_fraction 123 = .ok (.getfield 9, 3) := dk_get daX16_fraction 70 (r := (123, .getfield 9, 3)) rfl
theorem dX16_fraction_126 : decode cX16_fraction 126 = .ok (.iconst 5, 1) := dk_get daX16_fraction 71 (r := (126, .iconst 5, 1)) rfl
theorem dX16_fraction_127 : decode cX16_fraction 127 = .ok (.laload, 1) := dk_get daX16_fraction 72 (r := (127, .laload, 1)) rfl
theorem dX16_fraction_128 : decode cX16_fraction 128 = .ok (.bipush 16, 2) := dk_get daX16_fraction 73 (r := (128, .bipush 16, 2)) rfl
theorem dX16_fraction_130 : decode cX16_fraction 130 = .ok (.lshl, 1) := dk_get daX16_fraction 74 (r := (130, .lshl, 1)) rfl
theorem dX16_fraction_131 : decode cX16_fraction 131 = .ok (.lor, 1) := dk_get daX16_fraction 75 (r := (131, .lor, 1)) rfl
theorem dX16_fraction_132 : decode cX16_fraction 132 = .ok (.lstore 8, 2) := dk_get daX16_fraction 76 (r := (132, .lstore 8, 2)) rfl
theorem dX16_fraction_134 : decode cX16_fraction 134 = .ok (.lload 8, 2) := dk_get daX16_fraction 77 (r := (134, .lload 8, 2)) rfl
theorem dX16_fraction_136 : decode cX16_fraction 136 = .ok (.iload_n 1, 1) := dk_get daX16_fraction 78 (r := (136, .iload_n 1, 1)) rfl
theorem dX16_fraction_137 : decode cX16_fraction 137 = .ok (.i2l, 1) := dk_get daX16_fraction 79 (r := (137, .i2l, 1)) rfl
theorem dX16_fraction_138 : decode cX16_fraction 138 = .ok (.lcmp, 1) := dk_get daX16_fraction 80 (r := (138, .lcmp, 1)) rfl
theorem dX16_fraction_139 : decode cX16_fraction 139 = .ok (.ifCond .ge 6, 3) := dk_get daX16_fraction 81 (r := (139, .ifCond .ge 6, 3)) rfl
theorem dX16_fraction_142 : decode cX16_fraction 142 = .ok (.lload 6, 2) := dk_get daX16_fraction 82 (r := (142, .lload 6, 2)) rfl
theorem dX16_fraction_144 : decode cX16_fraction 144 = .ok (.lstore_n 3, 1) := dk_get daX16_fraction 83 (r := (144, .lstore_n 3, 1)) rfl
theorem dX16_fraction_145 : decode cX16_fraction 145 = .ok (.iinc 5 (-1), 3) := dk_get daX16_fraction 84 (r := (145, .iinc 5 (-1), 3)) rfl
theorem dX16_fraction_148 : decode cX16_fraction 148 = .ok (.goto (-142), 3) := dk_get daX16_fraction 85 (r := (148, .goto (-142), 3)) rfl
theorem dX16_fraction_151 : decode cX16_fraction 151 = .ok (.lload_n 3, 1) := dk_get daX16_fraction 86 (r := (151, .lload_n 3, 1)) rfl
theorem dX16_fraction_152 : decode cX16_fraction 152 = .ok (.l2i, 1) := dk_get daX16_fraction 87 (r := (152, .l2i, 1)) rfl
theorem dX16_fraction_153 : decode cX16_fraction 153 = .ok (.ireturn, 1) := dk_get daX16_fraction 88 (r := (153, .ireturn, 1)) rfl
abbrev mX16_doubled : ks_M := (RX16, cX16_doubled, 2, none, "doubled")
def drX16_doubled : List (Nat × Instr × Nat) := [(0, .aload_n 1, 1), (1, .getfield 90, 3), (4, .invokestatic 95, 3), (7, .ifCond .eq 4, 3), (10, .return_, 1), (11, .aload_n 0, 1), (12, .getfield 101, 3), (15, .aload_n 1, 1), (16, .getfield 105, 3), (19, .aload_n 1, 1), (20, .getfield 105, 3), (23, .aload_n 0, 1), (24, .getfield 108, 3), (27, .invokevirtual 111, 3), (30, .aload_n 0, 1), (31, .getfield 101, 3), (34, .aload_n 1, 1), (35, .getfield 115, 3), (38, .aload_n 0, 1), (39, .getfield 108, 3), (42, .aload_n 0, 1), (43, .getfield 118, 3), (46, .invokevirtual 111, 3), (49, .aload_n 0, 1), (50, .getfield 101, 3), (53, .aload_n 0, 1), (54, .getfield 118, 3), (57, .aload_n 0, 1), (58, .getfield 118, 3), (61, .aload_n 0, 1), (62, .getfield 118, 3), (65, .invokevirtual 121, 3), (68, .aload_n 0, 1), (69, .getfield 101, 3), (72, .aload_n 0, 1), (73, .getfield 118, 3), (76, .aload_n 0, 1), (77, .getfield 118, 3), (80, .aload_n 0, 1), (81, .getfield 118, 3), (84, .invokevirtual 121, 3), (87, .aload_n 0, 1), (88, .getfield 101, 3), (91, .aload_n 0, 1), (92, .getfield 108, 3), (95, .aload_n 0, 1), (96, .getfield 108, 3), (99, .aload_n 0, 1), (100, .getfield 124, 3), (103, .invokevirtual 111, 3), (106, .aload_n 0, 1), (107, .getfield 101, 3), (110, .aload_n 0, 1), (111, .getfield 124, 3), (114, .aload_n 0, 1), (115, .getfield 124, 3), (118, .aload_n 0, 1), (119, .getfield 124, 3), (122, .invokevirtual 121, 3), (125, .aload_n 0, 1), (126, .getfield 101, 3), (129, .aload_n 0, 1), (130, .getfield 124, 3), (133, .aload_n 0, 1), (134, .getfield 124, 3), (137, .aload_n 0, 1), (138, .getfield 124, 3), (141, .invokevirtual 121, 3), (144, .aload_n 0, 1), (145, .getfield 101, 3), (148, .aload_n 0, 1), (149, .getfield 124, 3), (152, .aload_n 0, 1), (153, .getfield 124, 3), (156, .aload_n 0, 1), (157, .getfield 124, 3), (160, .invokevirtual 121, 3), (163, .aload_n 0, 1), (164, .getfield 101, 3), (167, .aload_n 1, 1), (168, .getfield 115, 3), (171, .aload_n 1, 1), (172, .getfield 115, 3), (175, .aload_n 0, 1), (176, .getfield 127, 3), (179, .invokevirtual 111, 3), (182, .aload_n 0, 1), (183, .getfield 101, 3), (186, .aload_n 0, 1), (187, .getfield 127, 3), (190, .aload_n 0, 1), (191, .getfield 127, 3), (194, .aload_n 0, 1), (195, .getfield 130, 3), (198, .invokevirtual 121, 3), (201, .aload_n 0, 1), (202, .getfield 101, 3), (205, .aload_n 0, 1), (206, .getfield 127, 3), (209, .aload_n 0, 1), (210, .getfield 130, 3), (213, .aload_n 0, 1), (214, .getfield 127, 3), (217, .invokevirtual 121, 3), (220, .aload_n 0, 1), (221, .getfield 101, 3), (224, .aload_n 1, 1), (225, .getfield 105, 3), (228, .aload_n 1, 1), (229, .getfield 90, 3), (232, .aload_n 1, 1), (233, .getfield 90, 3), (236, .invokevirtual 111, 3), (239, .aload_n 0, 1), (240, .getfield 101, 3), (243, .aload_n 1, 1), (244, .getfield 90, 3), (247, .aload_n 1, 1), (248, .getfield 90, 3), (251, .aload_n 1, 1), (252, .getfield 90, 3), (255, .invokevirtual 121, 3), (258, .aload_n 0, 1), (259, .getfield 101, 3), (262, .aload_n 0, 1), (263, .getfield 127, 3), (266, .aload_n 0, 1), (267, .getfield 127, 3), (270, .aload_n 1, 1), (271, .getfield 115, 3), (274, .invokevirtual 111, 3), (277, .aload_n 0, 1), (278, .getfield 101, 3), (281, .aload_n 1, 1), (282, .getfield 115, 3), (285, .aload_n 0, 1), (286, .getfield 118, 3), (289, .aload_n 1, 1), (290, .getfield 115, 3), (293, .invokevirtual 133, 3), (296, .aload_n 0, 1), (297, .getfield 101, 3), (300, .aload_n 1, 1), (301, .getfield 115, 3), (304, .aload_n 0, 1), (305, .getfield 118, 3), (308, .aload_n 1, 1), (309, .getfield 115, 3), (312, .invokevirtual 133, 3), (315, .aload_n 0, 1), (316, .getfield 101, 3), (319, .aload_n 0, 1), (320, .getfield 118, 3), (323, .aload_n 1, 1), (324, .getfield 115, 3), (327, .aload_n 0, 1), (328, .getfield 118, 3), (331, .invokevirtual 133, 3), (334, .aload_n 0, 1), (335, .getfield 101, 3), (338, .aload_n 0, 1), (339, .getfield 127, 3), (342, .aload_n 0, 1), (343, .getfield 118, 3), (346, .aload_n 1, 1), (347, .getfield 105, 3), (350, .invokevirtual 111, 3), (353, .aload_n 0, 1), (354, .getfield 101, 3), (357, .aload_n 1, 1), (358, .getfield 105, 3), (361, .aload_n 0, 1), (362, .getfield 124, 3), (365, .aload_n 1, 1), (366, .getfield 105, 3), (369, .invokevirtual 133, 3), (372, .return_, 1)]
set_option maxRecDepth 100000 in
theorem daX16_doubled : dk_all cX16_doubled drX16_doubled = true := by decide +kernel
theorem dX16_doubled_0 : decode cX16_doubled 0 = .ok (.aload_n 1, 1) := dk_get daX16_doubled 0 (r := (0, .aload_n 1, 1)) rfl
theorem dX16_doubled_1 : decode cX16_doubled 1 = .ok (.getfield 90, 3) := dk_get daX16_doubled 1 (r := (1, .getfield 90, 3)) rfl
theorem dX16_doubled_4 : decode cX16_doubled 4 = .ok (.invokestatic 95, 3) := dk_get daX16_doubled 2 (r := (4, .invokestatic 95, 3)) rfl
theorem dX16_doubled_7 : decode cX16_doubled 7 = .ok (.ifCond .eq 4, 3) := dk_get daX16_doubled 3 (r := (7, .ifCond .eq 4, 3)) rfl
theorem dX16_doubled_10 : decode cX16_doubled 10 = .ok (.return_, 1) := dk_get daX16_doubled 4 (r := (10, .return_, 1)) rfl
theorem dX16_doubled_11 : decode cX16_doubled 11 = .ok (.aload_n 0, 1) := dk_get daX16_doubled 5 (r := (11, .aload_n 0, 1)) rfl
theorem dX16_doubled_12 : decode cX16_doubled 12 = .ok (.getfield 101, 3) := dk_get daX16_doubled 6 (r := (12, .getfield 101, 3)) rfl
theorem dX16_doubled_15 : decode cX16_doubled 15 = .ok (.aload_n 1, 1) := dk_get daX16_doubled 7 (r := (15, .aload_n 1, 1)) rfl
theorem dX16_doubled_16 : decode cX16_doubled 16 = .ok (.getfield 105, 3) := dk_get daX16_doubled 8 (r := (16, .getfield 105, 3)) rfl
theorem dX16_doubled_19 : decode cX16_doubled 19 = .ok (.aload_n 1, 1) := dk_get daX16_doubled 9 (r := (19, .aload_n 1, 1)) rfl
theorem dX16_doubled_20 : decode cX16_doubled 20 = .ok (.getfield 105, 3) := dk_get daX16_doubled 10 (r := (20, .getfield 105, 3)) rfl
theorem dX16_doubled_23 : decode cX16_doubled 23 = .ok (.aload_n 0, 1) := dk_get daX16_doubled 11 (r := (23, .aload_n 0, 1)) rfl
theorem dX16_doubled_24 : decode cX16_doubled 24 = .ok (.getfield 108, 3) := dk_get daX16_doubled 12 (r := (24, .getfield 108, 3)) rfl
theorem dX16_doubled_27 : decode cX16_doubled 27 = .ok (.invokevirtual 111, 3) := dk_get daX16_doubled 13 (r := (27, .invokevirtual 111, 3)) rfl
theorem dX16_doubled_30 : decode cX16_doubled 30 = .ok (.aload_n 0, 1) := dk_get daX16_doubled 14 (r := (30, .aload_n 0, 1)) rfl
theorem dX16_doubled_31 : decode cX16_doubled 31 = .ok (.getfield 101, 3) := dk_get daX16_doubled 15 (r := (31, .getfield 101, 3)) rfl
theorem dX16_doubled_34 : decode cX16_doubled 34 = .ok (.aload_n 1, 1) := dk_get daX16_doubled 16 (r := (34, .aload_n 1, 1)) rfl
theorem dX16_doubled_35 : decode cX16_doubled 35 = .ok (.getfield 115, 3) := dk_get daX16_doubled 17 (r := (35, .getfield 115, 3)) rfl
theorem dX16_doubled_38 : decode cX16_doubled 38 = .ok (.aload_n 0, 1) := dk_get daX16_doubled 18 (r := (38, .aload_n 0, 1)) rfl
theorem dX16_doubled_39 : decode cX16_doubled 39 = .ok (.getfield 108, 3) := dk_get daX16_doubled 19 (r := (39, .getfield 108, 3)) rfl
theorem dX16_doubled_42 : decode cX16_doubled 42 = .ok (.aload_n 0, 1) := dk_get daX16_doubled 20 (r := (42, .aload_n 0, 1)) rfl
theorem dX16_doubled_43 : decode cX16_doubled 43 = .ok (.getfield 118, 3) := dk_get daX16_doubled 21 (r := (43, .getfield 118, 3)) rfl
theorem dX16_doubled_46 : decode cX16_doubled 46 = .ok (.invokevirtual 111, 3) := dk_get daX16_doubled 22 (r := (46, .invokevirtual 111, 3)) rfl
theorem dX16_doubled_49 : decode cX16_doubled 49 = .ok (.aload_n 0, 1) := dk_get daX16_doubled 23 (r := (49, .aload_n 0, 1)) rfl
theorem dX16_doubled_50 : decode cX16_doubled 50 = .ok (.getfield 101, 3) := dk_get daX16_doubled 24 (r := (50, .getfield 101, 3)) rfl
theorem dX16_doubled_53 : decode cX16_doubled 53 = .ok (.aload_n 0, 1) := dk_get daX16_doubled 25 (r := (53, .aload_n 0, 1)) rfl
theorem dX16_doubled_54 : decode cX16_doubled 54 = .ok (.getfield 118, 3) := dk_get daX16_doubled 26 (r := (54, .getfield 118, 3)) rfl
theorem dX16_doubled_57 : decode cX16_doubled 57 = .ok (.aload_n 0, 1) := dk_get daX16_doubled 27 (r := (57, .aload_n 0, 1)) rfl
theorem dX16_doubled_58 : decode cX16_doubled 58 = .ok (.getfield 118, 3) := dk_get daX16_doubled 28 (r := (58, .getfield 118, 3)) rfl
theorem dX16_doubled_61 : decode cX16_doubled 61 = .ok (.aload_n 0, 1) := dk_get daX16_doubled 29 (r := (61, .aload_n 0, 1)) rfl
theorem dX16_doubled_62 : decode cX16_doubled 62 = .ok (.getfield 118, 3) := dk_get daX16_doubled 30 (r := (62, .getfield 118, 3)) rfl
theorem dX16_doubled_65 : decode cX16_doubled 65 = .ok (.invokevirtual 121, 3) := dk_get daX16_doubled 31 (r := (65, .invokevirtual 121, 3)) rfl
theorem dX16_doubled_68 : decode cX16_doubled 68 = .ok (.aload_n 0, 1) := dk_get daX16_doubled 32 (r := (68, .aload_n 0, 1)) rfl
theorem dX16_doubled_69 : decode cX16_doubled 69 = .ok (.getfield 101, 3) := dk_get daX16_doubled 33 (r := (69, .getfield 101, 3)) rfl
theorem dX16_doubled_72 : decode cX16_doubled 72 = .ok (.aload_n 0, 1) := dk_get daX16_doubled 34 (r := (72, .aload_n 0, 1)) rfl
theorem dX16_doubled_73 : decode cX16_doubled 73 = .ok (.getfield 118, 3) := dk_get daX16_doubled 35 (r := (73, .getfield 118, 3)) rfl
theorem dX16_doubled_76 : decode cX16_doubled 76 = .ok (.aload_n 0, 1) := dk_get daX16_doubled 36 (r := (76, .aload_n 0, 1)) rfl
theorem dX16_doubled_77 : decode cX16_doubled 77 = .ok (.getfield 118, 3) := dk_get daX16_doubled 37 (r := (77, .getfield 118, 3)) rfl
theorem dX16_doubled_80 : decode cX16_doubled 80 = .ok (.aload_n 0, 1) := dk_get daX16_doubled 38 (r := (80, .aload_n 0, 1)) rfl
theorem dX16_doubled_81 : decode cX16_doubled 81 = .ok (.getfield 118, 3) := dk_get daX16_doubled 39 (r := (81, .getfield 118, 3)) rfl
theorem dX16_doubled_84 : decode cX16_doubled 84 = .ok (.invokevirtual 121, 3) := dk_get daX16_doubled 40 (r := (84, .invokevirtual 121, 3)) rfl
theorem dX16_doubled_87 : decode cX16_doubled 87 = .ok (.aload_n 0, 1) := dk_get daX16_doubled 41 (r := (87, .aload_n 0, 1)) rfl
theorem dX16_doubled_88 : decode cX16_doubled 88 = .ok (.getfield 101, 3) := dk_get daX16_doubled 42 (r := (88, .getfield 101, 3)) rfl
theorem dX16_doubled_91 : decode cX16_doubled 91 = .ok (.aload_n 0, 1) := dk_get daX16_doubled 43 (r := (91, .aload_n 0, 1)) rfl
theorem dX16_doubled_92 : decode cX16_doubled 92 = .ok (.getfield 108, 3) := dk_get daX16_doubled 44 (r := (92, .getfield 108, 3)) rfl
theorem dX16_doubled_95 : decode cX16_doubled 95 = .ok (.aload_n 0, 1) := dk_get daX16_doubled 45 (r := (95, .aload_n 0, 1)) rfl
theorem dX16_doubled_96 : decode cX16_doubled 96 = .ok (.getfield 108, 3) := dk_get daX16_doubled 46 (r := (96, .getfield 108, 3)) rfl
theorem dX16_doubled_99 : decode cX16_doubled 99 = .ok (.aload_n 0, 1) := dk_get daX16_doubled 47 (r := (99, .aload_n 0, 1)) rfl
theorem dX16_doubled_100 : decode cX16_doubled 100 = .ok (.getfield 124, 3) := dk_get daX16_doubled 48 (r := (100, .getfield 124, 3)) rfl
theorem dX16_doubled_103 : decode cX16_doubled 103 = .ok (.invokevirtual 111, 3) := dk_get daX16_doubled 49 (r := (103, .invokevirtual 111, 3)) rfl
theorem dX16_doubled_106 : decode cX16_doubled 106 = .ok (.aload_n 0, 1) := dk_get daX16_doubled 50 (r := (106, .aload_n 0, 1)) rfl
theorem dX16_doubled_107 : decode cX16_doubled 107 = .ok (.getfield 101, 3) := dk_get daX16_doubled 51 (r := (107, .getfield 101, 3)) rfl
theorem dX16_doubled_110 : decode cX16_doubled 110 = .ok (.aload_n 0, 1) := dk_get daX16_doubled 52 (r := (110, .aload_n 0, 1)) rfl
theorem dX16_doubled_111 : decode cX16_doubled 111 = .ok (.getfield 124, 3) := dk_get daX16_doubled 53 (r := (111, .getfield 124, 3)) rfl
theorem dX16_doubled_114 : decode cX16_doubled 114 = .ok (.aload_n 0, 1) := dk_get daX16_doubled 54 (r := (114, .aload_n 0, 1)) rfl
theorem dX16_doubled_115 : decode cX16_doubled 115 = .ok (.getfield 124, 3) := dk_get daX16_doubled 55 (r := (115, .getfield 124, 3)) rfl
theorem dX16_doubled_118 : decode cX16_doubled 118 = .ok (.aload_n 0, 1) := dk_get daX16_doubled 56 (r := (118, .aload_n 0, 1)) rfl
theorem dX16_doubled_119 : decode cX16_doubled 119 = .ok (.getfield 124, 3) := dk_get daX16_doubled 57 (r := (119, .getfield 124, 3)) rfl
theorem dX16_doubled_122 : decode cX16_doubled 122 = .ok (.invokevirtual 121, 3) := dk_get daX16_doubled 58 (r := (122, .invokevirtual 121, 3)) rfl
theorem dX16_doubled_125 : decode cX16_doubled 125 = .ok (.aload_n 0, 1) := dk_get daX16_doubled 59 (r := (125, .aload_n 0, 1)) rfl
theorem dX16_doubled_126 : decode cX16_doubled 126 = .ok (.getfield 101, 3) := dk_get daX16_doubled 60 (r := (126, .getfield 101, 3)) rfl
theorem dX16_doubled_129 : decode cX16_doubled 129 = .ok (.aload_n 0, 1) := dk_get daX16_doubled 61 (r := (129, .aload_n 0, 1)) rfl
theorem dX16_doubled_130 : decode cX16_doubled 130 = .ok (.getfield 124, 3) := dk_get daX16_doubled 62 (r := (130, .getfield 124, 3)) rfl
theorem dX16_doubled_133 : decode cX16_doubled 133 = .ok (.aload_n 0, 1) := dk_get daX16_doubled 63 (r := (133, .aload_n 0, 1)) rfl
theorem dX16_doubled_134 : decode cX16_doubled 134 = .ok (.getfield 124, 3) := dk_get daX16_doubled 64 (r := (134, .getfield 124, 3)) rfl
theorem dX16_doubled_137 : decode cX16_doubled 137 = .ok (.aload_n 0, 1) := dk_get daX16_doubled 65 (r := (137, .aload_n 0, 1)) rfl
theorem dX16_doubled_138 : decode cX16_doubled 138 = .ok (.getfield 124, 3) := dk_get daX16_doubled 66 (r := (138, .getfield 124, 3)) rfl
theorem dX16_doubled_141 : decode cX16_doubled 141 = .ok (.invokevirtual 121, 3) := dk_get daX16_doubled 67 (r := (141, .invokevirtual 121, 3)) rfl
theorem dX16_doubled_144 : decode cX16_doubled 144 = .ok (.aload_n 0, 1) := dk_get daX16_doubled 68 (r := (144, .aload_n 0, 1)) rfl
theorem dX16_doubled_145 : decode cX16_doubled 145 = .ok (.getfield 101, 3) := dk_get daX16_doubled 69 (r := (145, .getfield 101, 3)) rfl
theorem dX16_doubled_148 : decode cX16_doubled 148 = .ok (.aload_n 0, 1) := dk_get daX16_doubled 70 (r := (148, .aload_n 0, 1)) rfl
theorem dX16_doubled_149 : decode cX16_doubled 149 = .ok (.getfield 124, 3) := dk_get daX16_doubled 71 (r := (149, .getfield 124, 3)) rfl
theorem dX16_doubled_152 : decode cX16_doubled 152 = .ok (.aload_n 0, 1) := dk_get daX16_doubled 72 (r := (152, .aload_n 0, 1)) rfl
theorem dX16_doubled_153 : decode cX16_doubled 153 = .ok (.getfield 124, 3) := dk_get daX16_doubled 73 (r := (153, .getfield 124, 3)) rfl
theorem dX16_doubled_156 : decode cX16_doubled 156 = .ok (.aload_n 0, 1) := dk_get daX16_doubled 74 (r := (156, .aload_n 0, 1)) rfl
theorem dX16_doubled_157 : decode cX16_doubled 157 = .ok (.getfield 124, 3) := dk_get daX16_doubled 75 (r := (157, .getfield 124, 3)) rfl
theorem dX16_doubled_160 : decode cX16_doubled 160 = .ok (.invokevirtual 121, 3) := dk_get daX16_doubled 76 (r := (160, .invokevirtual 121, 3)) rfl
theorem dX16_doubled_163 : decode cX16_doubled 163 = .ok (.aload_n 0, 1) := dk_get daX16_doubled 77 (r := (163, .aload_n 0, 1)) rfl
theorem dX16_doubled_164 : decode cX16_doubled 164 = .ok (.getfield 101, 3) := dk_get daX16_doubled 78 (r := (164, .getfield 101, 3)) rfl
theorem dX16_doubled_167 : decode cX16_doubled 167 = .ok (.aload_n 1, 1) := dk_get daX16_doubled 79 (r := (167, .aload_n 1, 1)) rfl
theorem dX16_doubled_168 : decode cX16_doubled 168 = .ok (.getfield 115, 3) := dk_get daX16_doubled 80 (r := (168, .getfield 115, 3)) rfl
theorem dX16_doubled_171 : decode cX16_doubled 171 = .ok (.aload_n 1, 1) := dk_get daX16_doubled 81 (r := (171, .aload_n 1, 1)) rfl
theorem dX16_doubled_172 : decode cX16_doubled 172 = .ok (.getfield 115, 3) := dk_get daX16_doubled 82 (r := (172, .getfield 115, 3)) rfl
theorem dX16_doubled_175 : decode cX16_doubled 175 = .ok (.aload_n 0, 1) := dk_get daX16_doubled 83 (r := (175, .aload_n 0, 1)) rfl
theorem dX16_doubled_176 : decode cX16_doubled 176 = .ok (.getfield 127, 3) := dk_get daX16_doubled 84 (r := (176, .getfield 127, 3)) rfl
theorem dX16_doubled_179 : decode cX16_doubled 179 = .ok (.invokevirtual 111, 3) := dk_get daX16_doubled 85 (r := (179, .invokevirtual 111, 3)) rfl
theorem dX16_doubled_182 : decode cX16_doubled 182 = .ok (.aload_n 0, 1) := dk_get daX16_doubled 86 (r := (182, .aload_n 0, 1)) rfl
theorem dX16_doubled_183 : decode cX16_doubled 183 = .ok (.getfield 101, 3) := dk_get daX16_doubled 87 (r := (183, .getfield 101, 3)) rfl
theorem dX16_doubled_186 : decode cX16_doubled 186 = .ok (.aload_n 0, 1) := dk_get daX16_doubled 88 (r := (186, .aload_n 0, 1)) rfl
theorem dX16_doubled_187 : decode cX16_doubled 187 = .ok (.getfield 127, 3) := dk_get daX16_doubled 89 (r := (187, .getfield 127, 3)) rfl
theorem dX16_doubled_190 : decode cX16_doubled 190 = .ok (.aload_n 0, 1) := dk_get daX16_doubled 90 (r := (190, .aload_n 0, 1)) rfl
theorem dX16_doubled_191 : decode cX16_doubled 191 = .ok (.getfield 127, 3) := dk_get daX16_doubled 91 (r := (191, .getfield 127, 3)) rfl
theorem dX16_doubled_194 : decode cX16_doubled 194 = .ok (.aload_n 0, 1) := dk_get daX16_doubled 92 (r := (194, .aload_n 0, 1)) rfl
theorem dX16_doubled_195 : decode cX16_doubled 195 = .ok (.getfield 130, 3) := dk_get daX16_doubled 93 (r := (195, .getfield 130, 3)) rfl
theorem dX16_doubled_198 : decode cX16_doubled 198 = .ok (.invokevirtual 121, 3) := dk_get daX16_doubled 94 (r := (198, .invokevirtual 121, 3)) rfl
theorem dX16_doubled_201 : decode cX16_doubled 201 = .ok (.aload_n 0, 1) := dk_get daX16_doubled 95 (r := (201, .aload_n 0, 1)) rfl
theorem dX16_doubled_202 : decode cX16_doubled 202 = .ok (.getfield 101, 3) := dk_get daX16_doubled 96 (r := (202, .getfield 101, 3)) rfl
theorem dX16_doubled_205 : decode cX16_doubled 205 = .ok (.aload_n 0, 1) := dk_get daX16_doubled 97 (r := (205, .aload_n 0, 1)) rfl
theorem dX16_doubled_206 : decode cX16_doubled 206 = .ok (.getfield 127, 3) := dk_get daX16_doubled 98 (r := (206, .getfield 127, 3)) rfl
theorem dX16_doubled_209 : decode cX16_doubled 209 = .ok (.aload_n 0, 1) := dk_get daX16_doubled 99 (r := (209, .aload_n 0, 1)) rfl
theorem dX16_doubled_210 : decode cX16_doubled 210 = .ok (.getfield 130, 3) := dk_get daX16_doubled 100 (r := (210, .getfield 130, 3)) rfl
theorem dX16_doubled_213 : decode cX16_doubled 213 = .ok (.aload_n 0, 1) := dk_get daX16_doubled 101 (r := (213, .aload_n 0, 1)) rfl
theorem dX16_doubled_214 : decode cX16_doubled 214 = .ok (.getfield 127, 3) := dk_get daX16_doubled 102 (r := (214, .getfield 127, 3)) rfl
theorem dX16_doubled_217 : decode cX16_doubled 217 = .ok (.invokevirtual 121, 3) := dk_get daX16_doubled 103 (r := (217, .invokevirtual 121, 3)) rfl
theorem dX16_doubled_220 : decode cX16_doubled 220 = .ok (.aload_n 0, 1) := dk_get daX16_doubled 104 (r := (220, .aload_n 0, 1)) rfl
theorem dX16_doubled_221 : decode cX16_doubled 221 = .ok (.getfield 101, 3) := dk_get daX16_doubled 105 (r := (221, .getfield 101, 3)) rfl
theorem dX16_doubled_224 : decode cX16_doubled 224 = .ok (.aload_n 1, 1) := dk_get daX16_doubled 106 (r := (224, .aload_n 1, 1)) rfl
theorem dX16_doubled_225 : decode cX16_doubled 225 = .ok (.getfield 105, 3) := dk_get daX16_doubled 107 (r := (225, .getfield 105, 3)) rfl
theorem dX16_doubled_228 : decode cX16_doubled 228 = .ok (.aload_n 1, 1) := dk_get daX16_doubled 108 (r := (228, .aload_n 1, 1)) rfl
theorem dX16_doubled_229 : decode cX16_doubled 229 = .ok (.getfield 90, 3) := dk_get daX16_doubled 109 (r := (229, .getfield 90, 3)) rfl
theorem dX16_doubled_232 : decode cX16_doubled 232 = .ok (.aload_n 1, 1) := dk_get daX16_doubled 110 (r := (232, .aload_n 1, 1)) rfl
theorem dX16_doubled_233 : decode cX16_doubled 233 = .ok (.getfield 90, 3) := dk_get daX16_doubled 111 (r := (233, .getfield 90, 3)) rfl
theorem dX16_doubled_236 : decode cX16_doubled 236 = .ok (.invokevirtual 111, 3) := dk_get daX16_doubled 112 (r := (236, .invokevirtual 111, 3)) rfl
theorem dX16_doubled_239 : decode cX16_doubled 239 = .ok (.aload_n 0, 1) := dk_get daX16_doubled 113 (r := (239, .aload_n 0, 1)) rfl
theorem dX16_doubled_240 : decode cX16_doubled 240 = .ok (.getfield 101, 3) := dk_get daX16_doubled 114 (r := (240, .getfield 101, 3)) rfl
theorem dX16_doubled_243 : decode cX16_doubled 243 = .ok (.aload_n 1, 1) := dk_get daX16_doubled 115 (r := (243, .aload_n 1, 1)) rfl
theorem dX16_doubled_244 : decode cX16_doubled 244 = .ok (.getfield 90, 3) := dk_get daX16_doubled 116 (r := (244, .getfield 90, 3)) rfl
theorem dX16_doubled_247 : decode cX16_doubled 247 = .ok (.aload_n 1, 1) := dk_get daX16_doubled 117 (r := (247, .aload_n 1, 1)) rfl
theorem dX16_doubled_248 : decode cX16_doubled 248 = .ok (.getfield 90, 3) := dk_get daX16_doubled 118 (r := (248, .getfield 90, 3)) rfl
theorem dX16_doubled_251 : decode cX16_doubled 251 = .ok (.aload_n 1, 1) := dk_get daX16_doubled 119 (r := (251, .aload_n 1, 1)) rfl
theorem dX16_doubled_252 : decode cX16_doubled 252 = .ok (.getfield 90, 3) := dk_get daX16_doubled 120 (r := (252, .getfield 90, 3)) rfl
theorem dX16_doubled_255 : decode cX16_doubled 255 = .ok (.invokevirtual 121, 3) := dk_get daX16_doubled 121 (r := (255, .invokevirtual 121, 3)) rfl
theorem dX16_doubled_258 : decode cX16_doubled 258 = .ok (.aload_n 0, 1) := dk_get daX16_doubled 122 (r := (258, .aload_n 0, 1)) rfl
theorem dX16_doubled_259 : decode cX16_doubled 259 = .ok (.getfield 101, 3) := dk_get daX16_doubled 123 (r := (259, .getfield 101, 3)) rfl
theorem dX16_doubled_262 : decode cX16_doubled 262 = .ok (.aload_n 0, 1) := dk_get daX16_doubled 124 (r := (262, .aload_n 0, 1)) rfl
theorem dX16_doubled_263 : decode cX16_doubled 263 = .ok (.getfield 127, 3) := dk_get daX16_doubled 125 (r := (263, .getfield 127, 3)) rfl
theorem dX16_doubled_266 : decode cX16_doubled 266 = .ok (.aload_n 0, 1) := dk_get daX16_doubled 126 (r := (266, .aload_n 0, 1)) rfl
theorem dX16_doubled_267 : decode cX16_doubled 267 = .ok (.getfield 127, 3) := dk_get daX16_doubled 127 (r := (267, .getfield 127, 3)) rfl
theorem dX16_doubled_270 : decode cX16_doubled 270 = .ok (.aload_n 1, 1) := dk_get daX16_doubled 128 (r := (270, .aload_n 1, 1)) rfl
theorem dX16_doubled_271 : decode cX16_doubled 271 = .ok (.getfield 115, 3) := dk_get daX16_doubled 129 (r := (271, .getfield 115, 3)) rfl
theorem dX16_doubled_274 : decode cX16_doubled 274 = .ok (.invokevirtual 111, 3) := dk_get daX16_doubled 130 (r := (274, .invokevirtual 111, 3)) rfl
theorem dX16_doubled_277 : decode cX16_doubled 277 = .ok (.aload_n 0, 1) := dk_get daX16_doubled 131 (r := (277, .aload_n 0, 1)) rfl
theorem dX16_doubled_278 : decode cX16_doubled 278 = .ok (.getfield 101, 3) := dk_get daX16_doubled 132 (r := (278, .getfield 101, 3)) rfl
theorem dX16_doubled_281 : decode cX16_doubled 281 = .ok (.aload_n 1, 1) := dk_get daX16_doubled 133 (r := (281, .aload_n 1, 1)) rfl
theorem dX16_doubled_282 : decode cX16_doubled 282 = .ok (.getfield 115, 3) := dk_get daX16_doubled 134 (r := (282, .getfield 115, 3)) rfl
theorem dX16_doubled_285 : decode cX16_doubled 285 = .ok (.aload_n 0, 1) := dk_get daX16_doubled 135 (r := (285, .aload_n 0, 1)) rfl
theorem dX16_doubled_286 : decode cX16_doubled 286 = .ok (.getfield 118, 3) := dk_get daX16_doubled 136 (r := (286, .getfield 118, 3)) rfl
theorem dX16_doubled_289 : decode cX16_doubled 289 = .ok (.aload_n 1, 1) := dk_get daX16_doubled 137 (r := (289, .aload_n 1, 1)) rfl
theorem dX16_doubled_290 : decode cX16_doubled 290 = .ok (.getfield 115, 3) := dk_get daX16_doubled 138 (r := (290, .getfield 115, 3)) rfl
theorem dX16_doubled_293 : decode cX16_doubled 293 = .ok (.invokevirtual 133, 3) := dk_get daX16_doubled 139 (r := (293, .invokevirtual 133, 3)) rfl
theorem dX16_doubled_296 : decode cX16_doubled 296 = .ok (.aload_n 0, 1) := dk_get daX16_doubled 140 (r := (296, .aload_n 0, 1)) rfl
theorem dX16_doubled_297 : decode cX16_doubled 297 = .ok (.getfield 101, 3) := dk_get daX16_doubled 141 (r := (297, .getfield 101, 3)) rfl
theorem dX16_doubled_300 : decode cX16_doubled 300 = .ok (.aload_n 1, 1) := dk_get daX16_doubled 142 (r := (300, .aload_n 1, 1)) rfl
theorem dX16_doubled_301 : decode cX16_doubled 301 = .ok (.getfield 115, 3) := dk_get daX16_doubled 143 (r := (301, .getfield 115, 3)) rfl
theorem dX16_doubled_304 : decode cX16_doubled 304 = .ok (.aload_n 0, 1) := dk_get daX16_doubled 144 (r := (304, .aload_n 0, 1)) rfl
theorem dX16_doubled_305 : decode cX16_doubled 305 = .ok (.getfield 118, 3) := dk_get daX16_doubled 145 (r := (305, .getfield 118, 3)) rfl
theorem dX16_doubled_308 : decode cX16_doubled 308 = .ok (.aload_n 1, 1) := dk_get daX16_doubled 146 (r := (308, .aload_n 1, 1)) rfl
theorem dX16_doubled_309 : decode cX16_doubled 309 = .ok (.getfield 115, 3) := dk_get daX16_doubled 147 (r := (309, .getfield 115, 3)) rfl
theorem dX16_doubled_312 : decode cX16_doubled 312 = .ok (.invokevirtual 133, 3) := dk_get daX16_doubled 148 (r := (312, .invokevirtual 133, 3)) rfl
theorem dX16_doubled_315 : decode cX16_doubled 315 = .ok (.aload_n 0, 1) := dk_get daX16_doubled 149 (r := (315, .aload_n 0, 1)) rfl
theorem dX16_doubled_316 : decode cX16_doubled 316 = .ok (.getfield 101, 3) := dk_get daX16_doubled 150 (r := (316, .getfield 101, 3)) rfl
theorem dX16_doubled_319 : decode cX16_doubled 319 = .ok (.aload_n 0, 1) := dk_get daX16_doubled 151 (r := (319, .aload_n 0, 1)) rfl
theorem dX16_doubled_320 : decode cX16_doubled 320 = .ok (.getfield 118, 3) := dk_get daX16_doubled 152 (r := (320, .getfield 118, 3)) rfl
theorem dX16_doubled_323 : decode cX16_doubled 323 = .ok (.aload_n 1, 1) := dk_get daX16_doubled 153 (r := (323, .aload_n 1, 1)) rfl
theorem dX16_doubled_324 : decode cX16_doubled 324 = .ok (.getfield 115, 3) := dk_get daX16_doubled 154 (r := (324, .getfield 115, 3)) rfl
theorem dX16_doubled_327 : decode cX16_doubled 327 = .ok (.aload_n 0, 1) := dk_get daX16_doubled 155 (r := (327, .aload_n 0, 1)) rfl
theorem dX16_doubled_328 : decode cX16_doubled 328 = .ok (.getfield 118, 3) := dk_get daX16_doubled 156 (r := (328, .getfield 118, 3)) rfl
theorem dX16_doubled_331 : decode cX16_doubled 331 = .ok (.invokevirtual 133, 3) := dk_get daX16_doubled 157 (r := (331, .invokevirtual 133, 3)) rfl
theorem dX16_doubled_334 : decode cX16_doubled 334 = .ok (.aload_n 0, 1) := dk_get daX16_doubled 158 (r := (334, .aload_n 0, 1)) rfl
theorem dX16_doubled_335 : decode cX16_doubled 335 = .ok (.getfield 101, 3) := dk_get daX16_doubled 159 (r := (335, .getfield 101, 3)) rfl
theorem dX16_doubled_338 : decode cX16_doubled 338 = .ok (.aload_n 0, 1) := dk_get daX16_doubled 160 (r := (338, .aload_n 0, 1)) rfl
theorem dX16_doubled_339 : decode cX16_doubled 339 = .ok (.getfield 127, 3) := dk_get daX16_doubled 161 (r := (339, .getfield 127, 3)) rfl
theorem dX16_doubled_342 : decode cX16_doubled 342 = .ok (.aload_n 0, 1) := dk_get daX16_doubled 162 (r := (342, .aload_n 0, 1)) rfl
theorem dX16_doubled_343 : decode cX16_doubled 343 = .ok (.getfield 118, 3) := dk_get daX16_doubled 163 (r := (343, .getfield 118, 3)) rfl
theorem dX16_doubled_346 : decode cX16_doubled 346 = .ok (.aload_n 1, 1) := dk_get daX16_doubled 164 (r := (346, .aload_n 1, 1)) rfl
theorem dX16_doubled_347 : decode cX16_doubled 347 = .ok (.getfield 105, 3) := dk_get daX16_doubled 165 (r := (347, .getfield 105, 3)) rfl
theorem dX16_doubled_350 : decode cX16_doubled 350 = .ok (.invokevirtual 111, 3) := dk_get daX16_doubled 166 (r := (350, .invokevirtual 111, 3)) rfl
theorem dX16_doubled_353 : decode cX16_doubled 353 = .ok (.aload_n 0, 1) := dk_get daX16_doubled 167 (r := (353, .aload_n 0, 1)) rfl
theorem dX16_doubled_354 : decode cX16_doubled 354 = .ok (.getfield 101, 3) := dk_get daX16_doubled 168 (r := (354, .getfield 101, 3)) rfl
theorem dX16_doubled_357 : decode cX16_doubled 357 = .ok (.aload_n 1, 1) := dk_get daX16_doubled 169 (r := (357, .aload_n 1, 1)) rfl
theorem dX16_doubled_358 : decode cX16_doubled 358 = .ok (.getfield 105, 3) := dk_get daX16_doubled 170 (r := (358, .getfield 105, 3)) rfl
theorem dX16_doubled_361 : decode cX16_doubled 361 = .ok (.aload_n 0, 1) := dk_get daX16_doubled 171 (r := (361, .aload_n 0, 1)) rfl
theorem dX16_doubled_362 : decode cX16_doubled 362 = .ok (.getfield 124, 3) := dk_get daX16_doubled 172 (r := (362, .getfield 124, 3)) rfl
theorem dX16_doubled_365 : decode cX16_doubled 365 = .ok (.aload_n 1, 1) := dk_get daX16_doubled 173 (r := (365, .aload_n 1, 1)) rfl
theorem dX16_doubled_366 : decode cX16_doubled 366 = .ok (.getfield 105, 3) := dk_get daX16_doubled 174 (r := (366, .getfield 105, 3)) rfl
theorem dX16_doubled_369 : decode cX16_doubled 369 = .ok (.invokevirtual 133, 3) := dk_get daX16_doubled 175 (r := (369, .invokevirtual 133, 3)) rfl
theorem dX16_doubled_372 : decode cX16_doubled 372 = .ok (.return_, 1) := dk_get daX16_doubled 176 (r := (372, .return_, 1)) rfl
abbrev mX16_plus : ks_M := (RX16, cX16_plus, 4, none, "plus")
def drX16_plus : List (Nat × Instr × Nat) := [(0, .aload_n 2, 1), (1, .getfield 90, 3), (4, .invokestatic 95, 3), (7, .ifCond .eq 4, 3), (10, .return_, 1), (11, .aload_n 1, 1), (12, .getfield 90, 3), (15, .invokestatic 95, 3), (18, .ifCond .eq 9, 3), (21, .aload_n 1, 1), (22, .aload_n 2, 1), (23, .invokevirtual 136, 3), (26, .return_, 1), (27, .aload_n 0, 1), (28, .getfield 101, 3), (31, .aload_n 2, 1), (32, .getfield 90, 3), (35, .aload_n 2, 1), (36, .getfield 90, 3), (39, .aload_n 0, 1), (40, .getfield 108, 3), (43, .invokevirtual 111, 3), (46, .aload_n 0, 1), (47, .getfield 101, 3), (50, .aload_n 1, 1), (51, .getfield 115, 3), (54, .aload_n 0, 1), (55, .getfield 108, 3), (58, .aload_n 0, 1), (59, .getfield 118, 3), (62, .invokevirtual 111, 3), (65, .aload_n 0, 1), (66, .getfield 101, 3), (69, .aload_n 0, 1), (70, .getfield 108, 3), (73, .aload_n 2, 1), (74, .getfield 90, 3), (77, .aload_n 0, 1), (78, .getfield 108, 3), (81, .invokevirtual 111, 3), (84, .aload_n 0, 1), (85, .getfield 101, 3), (88, .aload_n 1, 1), (89, .getfield 105, 3), (92, .aload_n 0, 1), (93, .getfield 108, 3), (96, .aload_n 0, 1), (97, .getfield 108, 3), (100, .invokevirtual 111, 3), (103, .aload_n 0, 1), (104, .getfield 101, 3), (107, .aload_n 1, 1), (108, .getfield 90, 3), (111, .aload_n 1, 1), (112, .getfield 90, 3), (115, .aload_n 0, 1), (116, .getfield 124, 3), (119, .invokevirtual 111, 3), (122, .aload_n 0, 1), (123, .getfield 101, 3), (126, .aload_n 2, 1), (127, .getfield 115, 3), (130, .aload_n 0, 1), (131, .getfield 124, 3), (134, .aload_n 0, 1), (135, .getfield 127, 3), (138, .invokevirtual 111, 3), (141, .aload_n 0, 1), (142, .getfield 101, 3), (145, .aload_n 0, 1), (146, .getfield 124, 3), (149, .aload_n 1, 1), (150, .getfield 90, 3), (153, .aload_n 0, 1), (154, .getfield 124, 3), (157, .invokevirtual 111, 3), (160, .aload_n 0, 1), (161, .getfield 101, 3), (164, .aload_n 2, 1), (165, .getfield 105, 3), (168, .aload_n 0, 1), (169, .getfield 124, 3), (172, .aload_n 0, 1), (173, .getfield 124, 3), (176, .invokevirtual 111, 3), (179, .aload_n 0, 1), (180, .getfield 101, 3), (183, .aload_n 0, 1), (184, .getfield 127, 3), (187, .aload_n 0, 1), (188, .getfield 118, 3), (191, .aload_n 0, 1), (192, .getfield 127, 3), (195, .invokevirtual 133, 3), (198, .aload_n 0, 1), (199, .getfield 101, 3), (202, .aload_n 0, 1), (203, .getfield 124, 3), (206, .aload_n 0, 1), (207, .getfield 108, 3), (210, .aload_n 0, 1), (211, .getfield 124, 3), (214, .invokevirtual 133, 3), (217, .aload_n 0, 1), (218, .getfield 127, 3), (221, .invokestatic 95, 3), (224, .ifCond .eq 43, 3), (227, .aload_n 0, 1), (228, .getfield 124, 3), (231, .invokestatic 95, 3), (234, .ifCond .eq 11, 3), (237, .aload_n 0, 1), (238, .aload_n 1, 1), (239, .invokevirtual 140, 3), (242, .goto 24, 3), (245, .iconst 0, 1), (246, .istore_n 3, 1), (247, .iload_n 3, 1), (248, .bipush 8, 2), (250, .if_icmp .ge 16, 3), (253, .aload_n 1, 1), (254, .getfield 90, 3), (257, .iload_n 3, 1), (258, .iconst 0, 1), (259, .iastore, 1), (260, .iinc 3 1, 3), (263, .goto (-16), 3), (266, .return_, 1), (267, .aload_n 0, 1), (268, .getfield 101, 3), (271, .aload_n 1, 1), (272, .getfield 90, 3), (275, .aload_n 2, 1), (276, .getfield 90, 3), (279, .aload_n 1, 1), (280, .getfield 90, 3), (283, .invokevirtual 111, 3), (286, .aload_n 0, 1), (287, .getfield 101, 3), (290, .aload_n 1, 1), (291, .getfield 90, 3), (294, .aload_n 0, 1), (295, .getfield 127, 3), (298, .aload_n 1, 1), (299, .getfield 90, 3), (302, .invokevirtual 111, 3), (305, .aload_n 0, 1), (306, .getfield 101, 3), (309, .aload_n 0, 1), (310, .getfield 127, 3), (313, .aload_n 0, 1), (314, .getfield 127, 3), (317, .aload_n 0, 1), (318, .getfield 130, 3), (321, .invokevirtual 111, 3), (324, .aload_n 0, 1), (325, .getfield 101, 3), (328, .aload_n 0, 1), (329, .getfield 118, 3), (332, .aload_n 0, 1), (333, .getfield 130, 3), (336, .aload_n 0, 1), (337, .getfield 118, 3), (340, .invokevirtual 111, 3), (343, .aload_n 0, 1), (344, .getfield 101, 3), (347, .aload_n 0, 1), (348, .getfield 130, 3), (351, .aload_n 0, 1), (352, .getfield 127, 3), (355, .aload_n 0, 1), (356, .getfield 130, 3), (359, .invokevirtual 111, 3), (362, .aload_n 0, 1), (363, .getfield 101, 3), (366, .aload_n 0, 1), (367, .getfield 124, 3), (370, .aload_n 0, 1), (371, .getfield 124, 3), (374, .aload_n 1, 1), (375, .getfield 115, 3), (378, .invokevirtual 111, 3), (381, .aload_n 0, 1), (382, .getfield 101, 3), (385, .aload_n 1, 1), (386, .getfield 115, 3), (389, .aload_n 0, 1), (390, .getfield 130, 3), (393, .aload_n 1, 1), (394, .getfield 115, 3), (397, .invokevirtual 133, 3), (400, .aload_n 0, 1), (401, .getfield 101, 3), (404, .aload_n 1, 1), (405, .getfield 115, 3), (408, .aload_n 0, 1), (409, .getfield 118, 3), (412, .aload_n 1, 1), (413, .getfield 115, 3), (416, .invokevirtual 133, 3), (419, .aload_n 0, 1), (420, .getfield 101, 3), (423, .aload_n 1, 1), (424, .getfield 115, 3), (427, .aload_n 0, 1), (428, .getfield 118, 3), (431, .aload_n 1, 1), (432, .getfield 115, 3), (435, .invokevirtual 133, 3), (438, .aload_n 0, 1), (439, .getfield 101, 3), (442, .aload_n 0, 1), (443, .getfield 118, 3), (446, .aload_n 1, 1), (447, .getfield 115, 3), (450, .aload_n 0, 1), (451, .getfield 118, 3), (454, .invokevirtual 133, 3), (457, .aload_n 0, 1), (458, .getfield 101, 3), (461, .aload_n 0, 1), (462, .getfield 124, 3), (465, .aload_n 0, 1), (466, .getfield 118, 3), (469, .aload_n 1, 1), (470, .getfield 105, 3), (473, .invokevirtual 111, 3), (476, .aload_n 0, 1), (477, .getfield 101, 3), (480, .aload_n 0, 1), (481, .getfield 108, 3), (484, .aload_n 0, 1), (485, .getfield 130, 3), (488, .aload_n 0, 1), (489, .getfield 108, 3), (492, .invokevirtual 111, 3), (495, .aload_n 0, 1), (496, .getfield 101, 3), (499, .aload_n 1, 1), (500, .getfield 105, 3), (503, .aload_n 0, 1), (504, .getfield 108, 3), (507, .aload_n 1, 1), (508, .getfield 105, 3), (511, .invokevirtual 133, 3), (514, .return_, 1)]
set_option maxRecDepth 100000 in
theorem daX16_plus : dk_all cX16_plus drX16_plus = true := by decide +kernel
theorem dX16_plus_0 : decode cX16_plus 0 = .ok (.aload_n 2, 1) := dk_get daX16_plus 0 (r := (0, .aload_n 2, 1)) rfl
theorem dX16_plus_1 : decode cX16_plus 1 = .ok (.getfield 90, 3) := dk_get daX16_plus 1 (r := (1, .getfield 90, 3)) rfl
theorem dX16_plus_4 : decode cX16_plus 4 = .ok (.invokestatic 95, 3) := dk_get daX16_plus 2 (r := (4, .invokestatic 95, 3)) rfl
theorem dX16_plus_7 : decode cX16_plus 7 = .ok (.ifCond .eq 4, 3) := dk_get daX16_plus 3 (r := (7, .ifCond .eq 4, 3)) rfl
theorem dX16_plus_10 : decode cX16_plus 10 = .ok (.return_, 1) := dk_get daX16_plus 4 (r := (10, .return_, 1)) rfl
theorem dX16_plus_11 : decode cX16_plus 11 = .ok (.aload_n 1, 1) := dk_get daX16_plus 5 (r := (11, .aload_n 1, 1)) rfl
theorem dX16_plus_12 : decode cX16_plus 12 = .ok (.getfield 90, 3) := dk_get daX16_plus 6 (r := (12, .getfield 90, 3)) rfl
theorem dX16_plus_15 : decode cX16_plus 15 = .ok (.invokestatic 95, 3) := dk_get daX16_plus 7 (r := (15, .invokestatic 95, 3)) rfl
theorem dX16_plus_18 : decode cX16_plus 18 = .ok (.ifCond .eq 9, 3) := dk_get daX16_plus 8 (r := (18, .ifCond .eq 9, 3)) rfl
theorem dX16_plus_21 : decode cX16_plus 21 = .ok (.aload_n 1, 1) := dk_get daX16_plus 9 (r := (21, .aload_n 1, 1)) rfl
theorem dX16_plus_22 : decode cX16_plus 22 = .ok (.aload_n 2, 1) := dk_get daX16_plus 10 (r := (22, .aload_n 2, 1)) rfl
theorem dX16_plus_23 : decode cX16_plus 23 = .ok (.invokevirtual 136, 3) := dk_get daX16_plus 11 (r := (23, .invokevirtual 136, 3)) rfl
theorem dX16_plus_26 : decode cX16_plus 26 = .ok (.return_, 1) := dk_get daX16_plus 12 (r := (26, .return_, 1)) rfl
theorem dX16_plus_27 : decode cX16_plus 27 = .ok (.aload_n 0, 1) := dk_get daX16_plus 13 (r := (27, .aload_n 0, 1)) rfl
theorem dX16_plus_28 : decode cX16_plus 28 = .ok (.getfield 101, 3) := dk_get daX16_plus 14 (r := (28, .getfield 101, 3)) rfl
theorem dX16_plus_31 : decode cX16_plus 31 = .ok (.aload_n 2, 1) := dk_get daX16_plus 15 (r := (31, .aload_n 2, 1)) rfl
theorem dX16_plus_32 : decode cX16_plus 32 = .ok (.getfield 90, 3) := dk_get daX16_plus 16 (r := (32, .getfield 90, 3)) rfl
theorem dX16_plus_35 : decode cX16_plus 35 = .ok (.aload_n 2, 1) := dk_get daX16_plus 17 (r := (35, .aload_n 2, 1)) rfl
theorem dX16_plus_36 : decode cX16_plus 36 = .ok (.getfield 90, 3) := dk_get daX16_plus 18 (r := (36, .getfield 90, 3)) rfl
theorem dX16_plus_39 : decode cX16_plus 39 = .ok (.aload_n 0, 1) := dk_get daX16_plus 19 (r := (39, .aload_n 0, 1)) rfl
theorem dX16_plus_40 : decode cX16_plus 40 = .ok (.getfield 108, 3) := dk_get daX16_plus 20 (r := (40, .getfield 108, 3)) rfl
theorem dX16_plus_43 : decode cX16_plus 43 = .ok (.invokevirtual 111, 3) := dk_get daX16_plus 21 (r := (43, .invokevirtual 111, 3)) rfl
theorem dX16_plus_46 : decode cX16_plus 46 = .ok (.aload_n 0, 1) := dk_get daX16_plus 22 (r := (46, .aload_n 0, 1)) rfl
theorem dX16_plus_47 : decode cX16_plus 47 = .ok (.getfield 101, 3) := dk_get daX16_plus 23 (r := (47, .getfield 101, 3)) rfl
theorem dX16_plus_50 : decode cX16_plus 50 = .ok (.aload_n 1, 1) := dk_get daX16_plus 24 (r := (50, .aload_n 1, 1)) rfl
theorem dX16_plus_51 : decode cX16_plus 51 = .ok (.getfield 115, 3) := dk_get daX16_plus 25 (r := (51, .getfield 115, 3)) rfl
theorem dX16_plus_54 : decode cX16_plus 54 = .ok (.aload_n 0, 1) := dk_get daX16_plus 26 (r := (54, .aload_n 0, 1)) rfl
theorem dX16_plus_55 : decode cX16_plus 55 = .ok (.getfield 108, 3) := dk_get daX16_plus 27 (r := (55, .getfield 108, 3)) rfl
theorem dX16_plus_58 : decode cX16_plus 58 = .ok (.aload_n 0, 1) := dk_get daX16_plus 28 (r := (58, .aload_n 0, 1)) rfl
theorem dX16_plus_59 : decode cX16_plus 59 = .ok (.getfield 118, 3) := dk_get daX16_plus 29 (r := (59, .getfield 118, 3)) rfl
theorem dX16_plus_62 : decode cX16_plus 62 = .ok (.invokevirtual 111, 3) := dk_get daX16_plus 30 (r := (62, .invokevirtual 111, 3)) rfl
theorem dX16_plus_65 : decode cX16_plus 65 = .ok (.aload_n 0, 1) := dk_get daX16_plus 31 (r := (65, .aload_n 0, 1)) rfl
theorem dX16_plus_66 : decode cX16_plus 66 = .ok (.getfield 101, 3) := dk_get daX16_plus 32 (r := (66, .getfield 101, 3)) rfl
theorem dX16_plus_69 : decode cX16_plus 69 = .ok (.aload_n 0, 1) := dk_get daX16_plus 33 (r := (69, .aload_n 0, 1)) rfl
theorem dX16_plus_70 : decode cX16_plus 70 = .ok (.getfield 108, 3) := dk_get daX16_plus 34 (r := (70, .getfield 108, 3)) rfl
theorem dX16_plus_73 : decode cX16_plus 73 = .ok (.aload_n 2, 1) := dk_get daX16_plus 35 (r := (73, .aload_n 2, 1)) rfl
theorem dX16_plus_74 : decode cX16_plus 74 = .ok (.getfield 90, 3) := dk_get daX16_plus 36 (r := (74, .getfield 90, 3)) rfl
theorem dX16_plus_77 : decode cX16_plus 77 = .ok (.aload_n 0, 1) := dk_get daX16_plus 37 (r := (77, .aload_n 0, 1)) rfl
theorem dX16_plus_78 : decode cX16_plus 78 = .ok (.getfield 108, 3) := dk_get daX16_plus 38 (r := (78, .getfield 108, 3)) rfl
theorem dX16_plus_81 : decode cX16_plus 81 = .ok (.invokevirtual 111, 3) := dk_get daX16_plus 39 (r := (81, .invokevirtual 111, 3)) rfl
theorem dX16_plus_84 : decode cX16_plus 84 = .ok (.aload_n 0, 1) := dk_get daX16_plus 40 (r := (84, .aload_n 0, 1)) rfl
theorem dX16_plus_85 : decode cX16_plus 85 = .ok (.getfield 101, 3) := dk_get daX16_plus 41 (r := (85, .getfield 101, 3)) rfl
theorem dX16_plus_88 : decode cX16_plus 88 = .ok (.aload_n 1, 1) := dk_get daX16_plus 42 (r := (88, .aload_n 1, 1)) rfl
theorem dX16_plus_89 : decode cX16_plus 89 = .ok (.getfield 105, 3) := dk_get daX16_plus 43 (r := (89, .getfield 105, 3)) rfl
theorem dX16_plus_92 : decode cX16_plus 92 = .ok (.aload_n 0, 1) := dk_get daX16_plus 44 (r := (92, .aload_n 0, 1)) rfl
theorem dX16_plus_93 : decode cX16_plus 93 = .ok (.getfield 108, 3) := dk_get daX16_plus 45 (r := (93, .getfield 108, 3)) rfl
theorem dX16_plus_96 : decode cX16_plus 96 = .ok (.aload_n 0, 1) := dk_get daX16_plus 46 (r := (96, .aload_n 0, 1)) rfl
theorem dX16_plus_97 : decode cX16_plus 97 = .ok (.getfield 108, 3) := dk_get daX16_plus 47 (r := (97, .getfield 108, 3)) rfl
theorem dX16_plus_100 : decode cX16_plus 100 = .ok (.invokevirtual 111, 3) := dk_get daX16_plus 48 (r := (100, .invokevirtual 111, 3)) rfl
theorem dX16_plus_103 : decode cX16_plus 103 = .ok (.aload_n 0, 1) := dk_get daX16_plus 49 (r := (103, .aload_n 0, 1)) rfl
theorem dX16_plus_104 : decode cX16_plus 104 = .ok (.getfield 101, 3) := dk_get daX16_plus 50 (r := (104, .getfield 101, 3)) rfl
theorem dX16_plus_107 : decode cX16_plus 107 = .ok (.aload_n 1, 1) := dk_get daX16_plus 51 (r := (107, .aload_n 1, 1)) rfl
theorem dX16_plus_108 : decode cX16_plus 108 = .ok (.getfield 90, 3) := dk_get daX16_plus 52 (r := (108, .getfield 90, 3)) rfl
theorem dX16_plus_111 : decode cX16_plus 111 = .ok (.aload_n 1, 1) := dk_get daX16_plus 53 (r := (111, .aload_n 1, 1)) rfl
theorem dX16_plus_112 : decode cX16_plus 112 = .ok (.getfield 90, 3) := dk_get daX16_plus 54 (r := (112, .getfield 90, 3)) rfl
theorem dX16_plus_115 : decode cX16_plus 115 = .ok (.aload_n 0, 1) := dk_get daX16_plus 55 (r := (115, .aload_n 0, 1)) rfl
theorem dX16_plus_116 : decode cX16_plus 116 = .ok (.getfield 124, 3) := dk_get daX16_plus 56 (r := (116, .getfield 124, 3)) rfl
theorem dX16_plus_119 : decode cX16_plus 119 = .ok (.invokevirtual 111, 3) := dk_get daX16_plus 57 (r := (119, .invokevirtual 111, 3)) rfl
theorem dX16_plus_122 : decode cX16_plus 122 = .ok (.aload_n 0, 1) := dk_get daX16_plus 58 (r := (122, .aload_n 0, 1)) rfl
theorem dX16_plus_123 : decode cX16_plus 123 = .ok (.getfield 101, 3) := dk_get daX16_plus 59 (r := (123, .getfield 101, 3)) rfl
theorem dX16_plus_126 : decode cX16_plus 126 = .ok (.aload_n 2, 1) := dk_get daX16_plus 60 (r := (126, .aload_n 2, 1)) rfl
theorem dX16_plus_127 : decode cX16_plus 127 = .ok (.getfield 115, 3) := dk_get daX16_plus 61 (r := (127, .getfield 115, 3)) rfl
theorem dX16_plus_130 : decode cX16_plus 130 = .ok (.aload_n 0, 1) := dk_get daX16_plus 62 (r := (130, .aload_n 0, 1)) rfl
theorem dX16_plus_131 : decode cX16_plus 131 = .ok (.getfield 124, 3) := dk_get daX16_plus 63 (r := (131, .getfield 124, 3)) rfl
theorem dX16_plus_134 : decode cX16_plus 134 = .ok (.aload_n 0, 1) := dk_get daX16_plus 64 (r := (134, .aload_n 0, 1)) rfl
theorem dX16_plus_135 : decode cX16_plus 135 = .ok (.getfield 127, 3) := dk_get daX16_plus 65 (r := (135, .getfield 127, 3)) rfl
theorem dX16_plus_138 : decode cX16_plus 138 = .ok (.invokevirtual 111, 3) := dk_get daX16_plus 66 (r := (138, .invokevirtual 111, 3)) rfl
theorem dX16_plus_141 : decode cX16_plus 141 = .ok (.aload_n 0, 1) := dk_get daX16_plus 67 (r := (141, .aload_n 0, 1)) rfl
theorem dX16_plus_142 : decode cX16_plus 142 = .ok (.getfield 101, 3) := dk_get daX16_plus 68 (r := (142, .getfield 101, 3)) rfl
theorem dX16_plus_145 : decode cX16_plus 145 = .ok (.aload_n 0, 1) := dk_get daX16_plus 69 (r := (145, .aload_n 0, 1)) rfl
theorem dX16_plus_146 : decode cX16_plus 146 = .ok (.getfield 124, 3) := dk_get daX16_plus 70 (r := (146, .getfield 124, 3)) rfl
theorem dX16_plus_149 : decode cX16_plus 149 = .ok (.aload_n 1, 1) := dk_get daX16_plus 71 (r := (149, .aload_n 1, 1)) rfl
theorem dX16_plus_150 : decode cX16_plus 150 = .ok (.getfield 90, 3) := dk_get daX16_plus 72 (r := (150, .getfield 90, 3)) rfl
theorem dX16_plus_153 : decode cX16_plus 153 = .ok (.aload_n 0, 1) := dk_get daX16_plus 73 (r := (153, .aload_n 0, 1)) rfl
theorem dX16_plus_154 : decode cX16_plus 154 = .ok (.getfield 124, 3) := dk_get daX16_plus 74 (r := (154, .getfield 124, 3)) rfl
theorem dX16_plus_157 : decode cX16_plus 157 = .ok (.invokevirtual 111, 3) := dk_get daX16_plus 75 (r := (157, .invokevirtual 111, 3)) rfl
theorem dX16_plus_160 : decode cX16_plus 160 = .ok (.aload_n 0, 1) := dk_get daX16_plus 76 (r := (160, .aload_n 0, 1)) rfl
theorem dX16_plus_161 : decode cX16_plus 161 = .ok (.getfield 101, 3) := dk_get daX16_plus 77 (r := (161, .getfield 101, 3)) rfl
theorem dX16_plus_164 : decode cX16_plus 164 = .ok (.aload_n 2, 1) := dk_get daX16_plus 78 (r := (164, .aload_n 2, 1)) rfl
theorem dX16_plus_165 : decode cX16_plus 165 = .ok (.getfield 105, 3) := dk_get daX16_plus 79 (r := (165, .getfield 105, 3)) rfl
theorem dX16_plus_168 : decode cX16_plus 168 = .ok (.aload_n 0, 1) := dk_get daX16_plus 80 (r := (168, .aload_n 0, 1)) rfl
theorem dX16_plus_169 : decode cX16_plus 169 = .ok (.getfield 124, 3) := dk_get daX16_plus 81 (r := (169, .getfield 124, 3)) rfl
theorem dX16_plus_172 : decode cX16_plus 172 = .ok (.aload_n 0, 1) := dk_get daX16_plus 82 (r := (172, .aload_n 0, 1)) rfl
theorem dX16_plus_173 : decode cX16_plus 173 = .ok (.getfield 124, 3) := dk_get daX16_plus 83 (r := (173, .getfield 124, 3)) rfl
theorem dX16_plus_176 : decode cX16_plus 176 = .ok (.invokevirtual 111, 3) := dk_get daX16_plus 84 (r := (176, .invokevirtual 111, 3)) rfl
theorem dX16_plus_179 : decode cX16_plus 179 = .ok (.aload_n 0, 1) := dk_get daX16_plus 85 (r := (179, .aload_n 0, 1)) rfl
theorem dX16_plus_180 : decode cX16_plus 180 = .ok (.getfield 101, 3) := dk_get daX16_plus 86 (r := (180, .getfield 101, 3)) rfl
theorem dX16_plus_183 : decode cX16_plus 183 = .ok (.aload_n 0, 1) := dk_get daX16_plus 87 (r := (183, .aload_n 0, 1)) rfl
theorem dX16_plus_184 : decode cX16_plus 184 = .ok (.getfield 127, 3) := dk_get daX16_plus 88 (r := (184, .getfield 127, 3)) rfl
theorem dX16_plus_187 : decode cX16_plus 187 = .ok (.aload_n 0, 1) := dk_get daX16_plus 89 (r := (187, .aload_n 0, 1)) rfl
theorem dX16_plus_188 : decode cX16_plus 188 = .ok (.getfield 118, 3) := dk_get daX16_plus 90 (r := (188, .getfield 118, 3)) rfl
theorem dX16_plus_191 : decode cX16_plus 191 = .ok (.aload_n 0, 1) := dk_get daX16_plus 91 (r := (191, .aload_n 0, 1)) rfl
theorem dX16_plus_192 : decode cX16_plus 192 = .ok (.getfield 127, 3) := dk_get daX16_plus 92 (r := (192, .getfield 127, 3)) rfl
theorem dX16_plus_195 : decode cX16_plus 195 = .ok (.invokevirtual 133, 3) := dk_get daX16_plus 93 (r := (195, .invokevirtual 133, 3)) rfl
theorem dX16_plus_198 : decode cX16_plus 198 = .ok (.aload_n 0, 1) := dk_get daX16_plus 94 (r := (198, .aload_n 0, 1)) rfl
theorem dX16_plus_199 : decode cX16_plus 199 = .ok (.getfield 101, 3) := dk_get daX16_plus 95 (r := (199, .getfield 101, 3)) rfl
theorem dX16_plus_202 : decode cX16_plus 202 = .ok (.aload_n 0, 1) := dk_get daX16_plus 96 (r := (202, .aload_n 0, 1)) rfl
theorem dX16_plus_203 : decode cX16_plus 203 = .ok (.getfield 124, 3) := dk_get daX16_plus 97 (r := (203, .getfield 124, 3)) rfl
theorem dX16_plus_206 : decode cX16_plus 206 = .ok (.aload_n 0, 1) := dk_get daX16_plus 98 (r := (206, .aload_n 0, 1)) rfl
theorem dX16_plus_207 : decode cX16_plus 207 = .ok (.getfield 108, 3) := dk_get daX16_plus 99 (r := (207, .getfield 108, 3)) rfl
theorem dX16_plus_210 : decode cX16_plus 210 = .ok (.aload_n 0, 1) := dk_get daX16_plus 100 (r := (210, .aload_n 0, 1)) rfl
theorem dX16_plus_211 : decode cX16_plus 211 = .ok (.getfield 124, 3) := dk_get daX16_plus 101 (r := (211, .getfield 124, 3)) rfl
theorem dX16_plus_214 : decode cX16_plus 214 = .ok (.invokevirtual 133, 3) := dk_get daX16_plus 102 (r := (214, .invokevirtual 133, 3)) rfl
theorem dX16_plus_217 : decode cX16_plus 217 = .ok (.aload_n 0, 1) := dk_get daX16_plus 103 (r := (217, .aload_n 0, 1)) rfl
theorem dX16_plus_218 : decode cX16_plus 218 = .ok (.getfield 127, 3) := dk_get daX16_plus 104 (r := (218, .getfield 127, 3)) rfl
theorem dX16_plus_221 : decode cX16_plus 221 = .ok (.invokestatic 95, 3) := dk_get daX16_plus 105 (r := (221, .invokestatic 95, 3)) rfl
theorem dX16_plus_224 : decode cX16_plus 224 = .ok (.ifCond .eq 43, 3) := dk_get daX16_plus 106 (r := (224, .ifCond .eq 43, 3)) rfl
theorem dX16_plus_227 : decode cX16_plus 227 = .ok (.aload_n 0, 1) := dk_get daX16_plus 107 (r := (227, .aload_n 0, 1)) rfl
theorem dX16_plus_228 : decode cX16_plus 228 = .ok (.getfield 124, 3) := dk_get daX16_plus 108 (r := (228, .getfield 124, 3)) rfl
theorem dX16_plus_231 : decode cX16_plus 231 = .ok (.invokestatic 95, 3) := dk_get daX16_plus 109 (r := (231, .invokestatic 95, 3)) rfl
theorem dX16_plus_234 : decode cX16_plus 234 = .ok (.ifCond .eq 11, 3) := dk_get daX16_plus 110 (r := (234, .ifCond .eq 11, 3)) rfl
theorem dX16_plus_237 : decode cX16_plus 237 = .ok (.aload_n 0, 1) := dk_get daX16_plus 111 (r := (237, .aload_n 0, 1)) rfl
theorem dX16_plus_238 : decode cX16_plus 238 = .ok (.aload_n 1, 1) := dk_get daX16_plus 112 (r := (238, .aload_n 1, 1)) rfl
theorem dX16_plus_239 : decode cX16_plus 239 = .ok (.invokevirtual 140, 3) := dk_get daX16_plus 113 (r := (239, .invokevirtual 140, 3)) rfl
theorem dX16_plus_242 : decode cX16_plus 242 = .ok (.goto 24, 3) := dk_get daX16_plus 114 (r := (242, .goto 24, 3)) rfl
theorem dX16_plus_245 : decode cX16_plus 245 = .ok (.iconst 0, 1) := dk_get daX16_plus 115 (r := (245, .iconst 0, 1)) rfl
theorem dX16_plus_246 : decode cX16_plus 246 = .ok (.istore_n 3, 1) := dk_get daX16_plus 116 (r := (246, .istore_n 3, 1)) rfl
theorem dX16_plus_247 : decode cX16_plus 247 = .ok (.iload_n 3, 1) := dk_get daX16_plus 117 (r := (247, .iload_n 3, 1)) rfl
theorem dX16_plus_248 : decode cX16_plus 248 = .ok (.bipush 8, 2) := dk_get daX16_plus 118 (r := (248, .bipush 8, 2)) rfl
theorem dX16_plus_250 : decode cX16_plus 250 = .ok (.if_icmp .ge 16, 3) := dk_get daX16_plus 119 (r := (250, .if_icmp .ge 16, 3)) rfl
theorem dX16_plus_253 : decode cX16_plus 253 = .ok (.aload_n 1, 1) := dk_get daX16_plus 120 (r := (253, .aload_n 1, 1)) rfl
theorem dX16_plus_254 : decode cX16_plus 254 = .ok (.getfield 90, 3) := dk_get daX16_plus 121 (r := (254, .getfield 90, 3)) rfl
theorem dX16_plus_257 : decode cX16_plus 257 = .ok (.iload_n 3, 1) := dk_get daX16_plus 122 (r := (257, .iload_n 3, 1)) rfl
theorem dX16_plus_258 : decode cX16_plus 258 = .ok (.iconst 0, 1) := dk_get daX16_plus 123 (r := (258, .iconst 0, 1)) rfl
theorem dX16_plus_259 : decode cX16_plus 259 = .ok (.iastore, 1) := dk_get daX16_plus 124 (r := (259, .iastore, 1)) rfl
theorem dX16_plus_260 : decode cX16_plus 260 = .ok (.iinc 3 1, 3) := dk_get daX16_plus 125 (r := (260, .iinc 3 1, 3)) rfl
theorem dX16_plus_263 : decode cX16_plus 263 = .ok (.goto (-16), 3) := dk_get daX16_plus 126 (r := (263, .goto (-16), 3)) rfl
theorem dX16_plus_266 : decode cX16_plus 266 = .ok (.return_, 1) := dk_get daX16_plus 127 (r := (266, .return_, 1)) rfl
theorem dX16_plus_267 : decode cX16_plus 267 = .ok (.aload_n 0, 1) := dk_get daX16_plus 128 (r := (267, .aload_n 0, 1)) rfl
theorem dX16_plus_268 : decode cX16_plus 268 = .ok (.getfield 101, 3) := dk_get daX16_plus 129 (r := (268, .getfield 101, 3)) rfl
theorem dX16_plus_271 : decode cX16_plus 271 = .ok (.aload_n 1, 1) := dk_get daX16_plus 130 (r := (271, .aload_n 1, 1)) rfl
theorem dX16_plus_272 : decode cX16_plus 272 = .ok (.getfield 90, 3) := dk_get daX16_plus 131 (r := (272, .getfield 90, 3)) rfl
theorem dX16_plus_275 : decode cX16_plus 275 = .ok (.aload_n 2, 1) := dk_get daX16_plus 132 (r := (275, .aload_n 2, 1)) rfl
theorem dX16_plus_276 : decode cX16_plus 276 = .ok (.getfield 90, 3) := dk_get daX16_plus 133 (r := (276, .getfield 90, 3)) rfl
theorem dX16_plus_279 : decode cX16_plus 279 = .ok (.aload_n 1, 1) := dk_get daX16_plus 134 (r := (279, .aload_n 1, 1)) rfl
theorem dX16_plus_280 : decode cX16_plus 280 = .ok (.getfield 90, 3) := dk_get daX16_plus 135 (r := (280, .getfield 90, 3)) rfl
theorem dX16_plus_283 : decode cX16_plus 283 = .ok (.invokevirtual 111, 3) := dk_get daX16_plus 136 (r := (283, .invokevirtual 111, 3)) rfl
theorem dX16_plus_286 : decode cX16_plus 286 = .ok (.aload_n 0, 1) := dk_get daX16_plus 137 (r := (286, .aload_n 0, 1)) rfl
theorem dX16_plus_287 : decode cX16_plus 287 = .ok (.getfield 101, 3) := dk_get daX16_plus 138 (r := (287, .getfield 101, 3)) rfl
theorem dX16_plus_290 : decode cX16_plus 290 = .ok (.aload_n 1, 1) := dk_get daX16_plus 139 (r := (290, .aload_n 1, 1)) rfl
theorem dX16_plus_291 : decode cX16_plus 291 = .ok (.getfield 90, 3) := dk_get daX16_plus 140 (r := (291, .getfield 90, 3)) rfl
theorem dX16_plus_294 : decode cX16_plus 294 = .ok (.aload_n 0, 1) := dk_get daX16_plus 141 (r := (294, .aload_n 0, 1)) rfl
theorem dX16_plus_295 : decode cX16_plus 295 = .ok (.getfield 127, 3) := dk_get daX16_plus 142 (r := (295, .getfield 127, 3)) rfl
theorem dX16_plus_298 : decode cX16_plus 298 = .ok (.aload_n 1, 1) := dk_get daX16_plus 143 (r := (298, .aload_n 1, 1)) rfl
theorem dX16_plus_299 : decode cX16_plus 299 = .ok (.getfield 90, 3) := dk_get daX16_plus 144 (r := (299, .getfield 90, 3)) rfl
theorem dX16_plus_302 : decode cX16_plus 302 = .ok (.invokevirtual 111, 3) := dk_get daX16_plus 145 (r := (302, .invokevirtual 111, 3)) rfl
theorem dX16_plus_305 : decode cX16_plus 305 = .ok (.aload_n 0, 1) := dk_get daX16_plus 146 (r := (305, .aload_n 0, 1)) rfl
theorem dX16_plus_306 : decode cX16_plus 306 = .ok (.getfield 101, 3) := dk_get daX16_plus 147 (r := (306, .getfield 101, 3)) rfl
theorem dX16_plus_309 : decode cX16_plus 309 = .ok (.aload_n 0, 1) := dk_get daX16_plus 148 (r := (309, .aload_n 0, 1)) rfl
theorem dX16_plus_310 : decode cX16_plus 310 = .ok (.getfield 127, 3) := dk_get daX16_plus 149 (r := (310, .getfield 127, 3)) rfl
theorem dX16_plus_313 : decode cX16_plus 313 = .ok (.aload_n 0, 1) := dk_get daX16_plus 150 (r := (313, .aload_n 0, 1)) rfl
theorem dX16_plus_314 : decode cX16_plus 314 = .ok (.getfield 127, 3) := dk_get daX16_plus 151 (r := (314, .getfield 127, 3)) rfl
theorem dX16_plus_317 : decode cX16_plus 317 = .ok (.aload_n 0, 1) := dk_get daX16_plus 152 (r := (317, .aload_n 0, 1)) rfl
theorem dX16_plus_318 : decode cX16_plus 318 = .ok (.getfield 130, 3) := dk_get daX16_plus 153 (r := (318, .getfield 130, 3)) rfl
theorem dX16_plus_321 : decode cX16_plus 321 = .ok (.invokevirtual 111, 3) := dk_get daX16_plus 154 (r := (321, .invokevirtual 111, 3)) rfl
theorem dX16_plus_324 : decode cX16_plus 324 = .ok (.aload_n 0, 1) := dk_get daX16_plus 155 (r := (324, .aload_n 0, 1)) rfl
theorem dX16_plus_325 : decode cX16_plus 325 = .ok (.getfield 101, 3) := dk_get daX16_plus 156 (r := (325, .getfield 101, 3)) rfl
theorem dX16_plus_328 : decode cX16_plus 328 = .ok (.aload_n 0, 1) := dk_get daX16_plus 157 (r := (328, .aload_n 0, 1)) rfl
theorem dX16_plus_329 : decode cX16_plus 329 = .ok (.getfield 118, 3) := dk_get daX16_plus 158 (r := (329, .getfield 118, 3)) rfl
theorem dX16_plus_332 : decode cX16_plus 332 = .ok (.aload_n 0, 1) := dk_get daX16_plus 159 (r := (332, .aload_n 0, 1)) rfl
theorem dX16_plus_333 : decode cX16_plus 333 = .ok (.getfield 130, 3) := dk_get daX16_plus 160 (r := (333, .getfield 130, 3)) rfl
theorem dX16_plus_336 : decode cX16_plus 336 = .ok (.aload_n 0, 1) := dk_get daX16_plus 161 (r := (336, .aload_n 0, 1)) rfl
theorem dX16_plus_337 : decode cX16_plus 337 = .ok (.getfield 118, 3) := dk_get daX16_plus 162 (r := (337, .getfield 118, 3)) rfl
theorem dX16_plus_340 : decode cX16_plus 340 = .ok (.invokevirtual 111, 3) := dk_get daX16_plus 163 (r := (340, .invokevirtual 111, 3)) rfl
theorem dX16_plus_343 : decode cX16_plus 343 = .ok (.aload_n 0, 1) := dk_get daX16_plus 164 (r := (343, .aload_n 0, 1)) rfl
theorem dX16_plus_344 : decode cX16_plus 344 = .ok (.getfield 101, 3) := dk_get daX16_plus 165 (r := (344, .getfield 101, 3)) rfl
theorem dX16_plus_347 : decode cX16_plus 347 = .ok (.aload_n 0, 1) := dk_get daX16_plus 166 (r := (347, .aload_n 0, 1)) rfl
theorem dX16_plus_348 : decode cX16_plus 348 = .ok (.getfield 130, 3) := dk_get daX16_plus 167 (r := (348, .getfield 130, 3)) rfl
theorem dX16_plus_351 : decode cX16_plus 351 = .ok (.aload_n 0, 1) := dk_get daX16_plus 168 (r := (351, .aload_n 0, 1)) rfl
theorem dX16_plus_352 : decode cX16_plus 352 = .ok (.getfield 127, 3) := dk_get daX16_plus 169 (r := (352, .getfield 127, 3)) rfl
theorem dX16_plus_355 : decode cX16_plus 355 = .ok (.aload_n 0, 1) := dk_get daX16_plus 170 (r := (355, .aload_n 0, 1)) rfl
theorem dX16_plus_356 : decode cX16_plus 356 = .ok (.getfield 130, 3) := dk_get daX16_plus 171 (r := (356, .getfield 130, 3)) rfl
theorem dX16_plus_359 : decode cX16_plus 359 = .ok (.invokevirtual 111, 3) := dk_get daX16_plus 172 (r := (359, .invokevirtual 111, 3)) rfl
theorem dX16_plus_362 : decode cX16_plus 362 = .ok (.aload_n 0, 1) := dk_get daX16_plus 173 (r := (362, .aload_n 0, 1)) rfl
theorem dX16_plus_363 : decode cX16_plus 363 = .ok (.getfield 101, 3) := dk_get daX16_plus 174 (r := (363, .getfield 101, 3)) rfl
theorem dX16_plus_366 : decode cX16_plus 366 = .ok (.aload_n 0, 1) := dk_get daX16_plus 175 (r := (366, .aload_n 0, 1)) rfl
theorem dX16_plus_367 : decode cX16_plus 367 = .ok (.getfield 124, 3) := dk_get daX16_plus 176 (r := (367, .getfield 124, 3)) rfl
theorem dX16_plus_370 : decode cX16_plus 370 = .ok (.aload_n 0, 1) := dk_get daX16_plus 177 (r := (370, .aload_n 0, 1)) rfl
theorem dX16_plus_371 : decode cX16_plus 371 = .ok (.getfield 124, 3) := dk_get daX16_plus 178 (r := (371, .getfield 124, 3)) rfl
theorem dX16_plus_374 : decode cX16_plus 374 = .ok (.aload_n 1, 1) := dk_get daX16_plus 179 (r := (374, .aload_n 1, 1)) rfl
theorem dX16_plus_375 : decode cX16_plus 375 = .ok (.getfield 115, 3) := dk_get daX16_plus 180 (r := (375, .getfield 115, 3)) rfl
theorem dX16_plus_378 : decode cX16_plus 378 = .ok (.invokevirtual 111, 3) := dk_get daX16_plus 181 (r := (378, .invokevirtual 111, 3)) rfl
theorem dX16_plus_381 : decode cX16_plus 381 = .ok (.aload_n 0, 1) := dk_get daX16_plus 182 (r := (381, .aload_n 0, 1)) rfl
theorem dX16_plus_382 : decode cX16_plus 382 = .ok (.getfield 101, 3) := dk_get daX16_plus 183 (r := (382, .getfield 101, 3)) rfl
theorem dX16_plus_385 : decode cX16_plus 385 = .ok (.aload_n 1, 1) := dk_get daX16_plus 184 (r := (385, .aload_n 1, 1)) rfl
theorem dX16_plus_386 : decode cX16_plus 386 = .ok (.getfield 115, 3) := dk_get daX16_plus 185 (r := (386, .getfield 115, 3)) rfl
theorem dX16_plus_389 : decode cX16_plus 389 = .ok (.aload_n 0, 1) := dk_get daX16_plus 186 (r := (389, .aload_n 0, 1)) rfl
theorem dX16_plus_390 : decode cX16_plus 390 = .ok (.getfield 130, 3) := dk_get daX16_plus 187 (r := (390, .getfield 130, 3)) rfl
theorem dX16_plus_393 : decode cX16_plus 393 = .ok (.aload_n 1, 1) := dk_get daX16_plus 188 (r := (393, .aload_n 1, 1)) rfl
theorem dX16_plus_394 : decode cX16_plus 394 = .ok (.getfield 115, 3) := dk_get daX16_plus 189 (r := (394, .getfield 115, 3)) rfl
theorem dX16_plus_397 : decode cX16_plus 397 = .ok (.invokevirtual 133, 3) := dk_get daX16_plus 190 (r := (397, .invokevirtual 133, 3)) rfl
theorem dX16_plus_400 : decode cX16_plus 400 = .ok (.aload_n 0, 1) := dk_get daX16_plus 191 (r := (400, .aload_n 0, 1)) rfl
theorem dX16_plus_401 : decode cX16_plus 401 = .ok (.getfield 101, 3) := dk_get daX16_plus 192 (r := (401, .getfield 101, 3)) rfl
theorem dX16_plus_404 : decode cX16_plus 404 = .ok (.aload_n 1, 1) := dk_get daX16_plus 193 (r := (404, .aload_n 1, 1)) rfl
theorem dX16_plus_405 : decode cX16_plus 405 = .ok (.getfield 115, 3) := dk_get daX16_plus 194 (r := (405, .getfield 115, 3)) rfl
theorem dX16_plus_408 : decode cX16_plus 408 = .ok (.aload_n 0, 1) := dk_get daX16_plus 195 (r := (408, .aload_n 0, 1)) rfl
theorem dX16_plus_409 : decode cX16_plus 409 = .ok (.getfield 118, 3) := dk_get daX16_plus 196 (r := (409, .getfield 118, 3)) rfl
theorem dX16_plus_412 : decode cX16_plus 412 = .ok (.aload_n 1, 1) := dk_get daX16_plus 197 (r := (412, .aload_n 1, 1)) rfl
theorem dX16_plus_413 : decode cX16_plus 413 = .ok (.getfield 115, 3) := dk_get daX16_plus 198 (r := (413, .getfield 115, 3)) rfl
theorem dX16_plus_416 : decode cX16_plus 416 = .ok (.invokevirtual 133, 3) := dk_get daX16_plus 199 (r := (416, .invokevirtual 133, 3)) rfl
theorem dX16_plus_419 : decode cX16_plus 419 = .ok (.aload_n 0, 1) := dk_get daX16_plus 200 (r := (419, .aload_n 0, 1)) rfl
theorem dX16_plus_420 : decode cX16_plus 420 = .ok (.getfield 101, 3) := dk_get daX16_plus 201 (r := (420, .getfield 101, 3)) rfl
theorem dX16_plus_423 : decode cX16_plus 423 = .ok (.aload_n 1, 1) := dk_get daX16_plus 202 (r := (423, .aload_n 1, 1)) rfl
theorem dX16_plus_424 : decode cX16_plus 424 = .ok (.getfield 115, 3) := dk_get daX16_plus 203 (r := (424, .getfield 115, 3)) rfl
theorem dX16_plus_427 : decode cX16_plus 427 = .ok (.aload_n 0, 1) := dk_get daX16_plus 204 (r := (427, .aload_n 0, 1)) rfl
theorem dX16_plus_428 : decode cX16_plus 428 = .ok (.getfield 118, 3) := dk_get daX16_plus 205 (r := (428, .getfield 118, 3)) rfl
theorem dX16_plus_431 : decode cX16_plus 431 = .ok (.aload_n 1, 1) := dk_get daX16_plus 206 (r := (431, .aload_n 1, 1)) rfl
theorem dX16_plus_432 : decode cX16_plus 432 = .ok (.getfield 115, 3) := dk_get daX16_plus 207 (r := (432, .getfield 115, 3)) rfl
theorem dX16_plus_435 : decode cX16_plus 435 = .ok (.invokevirtual 133, 3) := dk_get daX16_plus 208 (r := (435, .invokevirtual 133, 3)) rfl
theorem dX16_plus_438 : decode cX16_plus 438 = .ok (.aload_n 0, 1) := dk_get daX16_plus 209 (r := (438, .aload_n 0, 1)) rfl
theorem dX16_plus_439 : decode cX16_plus 439 = .ok (.getfield 101, 3) := dk_get daX16_plus 210 (r := (439, .getfield 101, 3)) rfl
theorem dX16_plus_442 : decode cX16_plus 442 = .ok (.aload_n 0, 1) := dk_get daX16_plus 211 (r := (442, .aload_n 0, 1)) rfl
theorem dX16_plus_443 : decode cX16_plus 443 = .ok (.getfield 118, 3) := dk_get daX16_plus 212 (r := (443, .getfield 118, 3)) rfl
theorem dX16_plus_446 : decode cX16_plus 446 = .ok (.aload_n 1, 1) := dk_get daX16_plus 213 (r := (446, .aload_n 1, 1)) rfl
theorem dX16_plus_447 : decode cX16_plus 447 = .ok (.getfield 115, 3) := dk_get daX16_plus 214 (r := (447, .getfield 115, 3)) rfl
theorem dX16_plus_450 : decode cX16_plus 450 = .ok (.aload_n 0, 1) := dk_get daX16_plus 215 (r := (450, .aload_n 0, 1)) rfl
theorem dX16_plus_451 : decode cX16_plus 451 = .ok (.getfield 118, 3) := dk_get daX16_plus 216 (r := (451, .getfield 118, 3)) rfl
theorem dX16_plus_454 : decode cX16_plus 454 = .ok (.invokevirtual 133, 3) := dk_get daX16_plus 217 (r := (454, .invokevirtual 133, 3)) rfl
theorem dX16_plus_457 : decode cX16_plus 457 = .ok (.aload_n 0, 1) := dk_get daX16_plus 218 (r := (457, .aload_n 0, 1)) rfl
theorem dX16_plus_458 : decode cX16_plus 458 = .ok (.getfield 101, 3) := dk_get daX16_plus 219 (r := (458, .getfield 101, 3)) rfl
theorem dX16_plus_461 : decode cX16_plus 461 = .ok (.aload_n 0, 1) := dk_get daX16_plus 220 (r := (461, .aload_n 0, 1)) rfl
theorem dX16_plus_462 : decode cX16_plus 462 = .ok (.getfield 124, 3) := dk_get daX16_plus 221 (r := (462, .getfield 124, 3)) rfl
theorem dX16_plus_465 : decode cX16_plus 465 = .ok (.aload_n 0, 1) := dk_get daX16_plus 222 (r := (465, .aload_n 0, 1)) rfl
theorem dX16_plus_466 : decode cX16_plus 466 = .ok (.getfield 118, 3) := dk_get daX16_plus 223 (r := (466, .getfield 118, 3)) rfl
theorem dX16_plus_469 : decode cX16_plus 469 = .ok (.aload_n 1, 1) := dk_get daX16_plus 224 (r := (469, .aload_n 1, 1)) rfl
theorem dX16_plus_470 : decode cX16_plus 470 = .ok (.getfield 105, 3) := dk_get daX16_plus 225 (r := (470, .getfield 105, 3)) rfl
theorem dX16_plus_473 : decode cX16_plus 473 = .ok (.invokevirtual 111, 3) := dk_get daX16_plus 226 (r := (473, .invokevirtual 111, 3)) rfl
theorem dX16_plus_476 : decode cX16_plus 476 = .ok (.aload_n 0, 1) := dk_get daX16_plus 227 (r := (476, .aload_n 0, 1)) rfl
theorem dX16_plus_477 : decode cX16_plus 477 = .ok (.getfield 101, 3) := dk_get daX16_plus 228 (r := (477, .getfield 101, 3)) rfl
theorem dX16_plus_480 : decode cX16_plus 480 = .ok (.aload_n 0, 1) := dk_get daX16_plus 229 (r := (480, .aload_n 0, 1)) rfl
theorem dX16_plus_481 : decode cX16_plus 481 = .ok (.getfield 108, 3) := dk_get daX16_plus 230 (r := (481, .getfield 108, 3)) rfl
theorem dX16_plus_484 : decode cX16_plus 484 = .ok (.aload_n 0, 1) := dk_get daX16_plus 231 (r := (484, .aload_n 0, 1)) rfl
theorem dX16_plus_485 : decode cX16_plus 485 = .ok (.getfield 130, 3) := dk_get daX16_plus 232 (r := (485, .getfield 130, 3)) rfl
theorem dX16_plus_488 : decode cX16_plus 488 = .ok (.aload_n 0, 1) := dk_get daX16_plus 233 (r := (488, .aload_n 0, 1)) rfl
theorem dX16_plus_489 : decode cX16_plus 489 = .ok (.getfield 108, 3) := dk_get daX16_plus 234 (r := (489, .getfield 108, 3)) rfl
theorem dX16_plus_492 : decode cX16_plus 492 = .ok (.invokevirtual 111, 3) := dk_get daX16_plus 235 (r := (492, .invokevirtual 111, 3)) rfl
theorem dX16_plus_495 : decode cX16_plus 495 = .ok (.aload_n 0, 1) := dk_get daX16_plus 236 (r := (495, .aload_n 0, 1)) rfl
theorem dX16_plus_496 : decode cX16_plus 496 = .ok (.getfield 101, 3) := dk_get daX16_plus 237 (r := (496, .getfield 101, 3)) rfl
theorem dX16_plus_499 : decode cX16_plus 499 = .ok (.aload_n 1, 1) := dk_get daX16_plus 238 (r := (499, .aload_n 1, 1)) rfl
theorem dX16_plus_500 : decode cX16_plus 500 = .ok (.getfield 105, 3) := dk_get daX16_plus 239 (r := (500, .getfield 105, 3)) rfl
theorem dX16_plus_503 : decode cX16_plus 503 = .ok (.aload_n 0, 1) := dk_get daX16_plus 240 (r := (503, .aload_n 0, 1)) rfl
theorem dX16_plus_504 : decode cX16_plus 504 = .ok (.getfield 108, 3) := dk_get daX16_plus 241 (r := (504, .getfield 108, 3)) rfl
theorem dX16_plus_507 : decode cX16_plus 507 = .ok (.aload_n 1, 1) := dk_get daX16_plus 242 (r := (507, .aload_n 1, 1)) rfl
theorem dX16_plus_508 : decode cX16_plus 508 = .ok (.getfield 105, 3) := dk_get daX16_plus 243 (r := (508, .getfield 105, 3)) rfl
theorem dX16_plus_511 : decode cX16_plus 511 = .ok (.invokevirtual 133, 3) := dk_get daX16_plus 244 (r := (511, .invokevirtual 133, 3)) rfl
theorem dX16_plus_514 : decode cX16_plus 514 = .ok (.return_, 1) := dk_get daX16_plus 245 (r := (514, .return_, 1)) rfl
abbrev mX16_times_ : ks_M := (RX16, cX16_times_, 5, none, "times")
def drX16_times_ : List (Nat × Instr × Nat) := [(0, .iconst 0, 1), (1, .istore 4, 2), (3, .iload 4, 2), (5, .bipush 8, 2), (7, .if_icmp .ge 17, 3), (10, .aload_n 3, 1), (11, .getfield 90, 3), (14, .iload 4, 2), (16, .iconst 0, 1), (17, .iastore, 1), (18, .iinc 4 1, 3), (21, .goto (-18), 3), (24, .sipush 255, 3), (27, .istore 4, 2), (29, .iload 4, 2), (31, .ifCond .lt 39, 3), (34, .aload_n 0, 1), (35, .aload_n 3, 1), (36, .invokevirtual 140, 3), (39, .aload_n 1, 1), (40, .iload 4, 2), (42, .bipush 32, 2), (44, .idiv, 1), (45, .iaload, 1), (46, .iload 4, 2), (48, .bipush 32, 2), (50, .irem, 1), (51, .ishr, 1), (52, .iconst 1, 1), (53, .iand, 1), (54, .iconst 1, 1), (55, .if_icmp .ne 9, 3), (58, .aload_n 0, 1), (59, .aload_n 3, 1), (60, .aload_n 2, 1), (61, .invokevirtual 143, 3), (64, .iinc 4 (-1), 3), (67, .goto (-38), 3), (70, .return_, 1)]
set_option maxRecDepth 100000 in
theorem daX16_times_ : dk_all cX16_times_ drX16_times_ = true := by decide +kernel
theorem dX16_times__0 : decode cX16_times_ 0 = .ok (.iconst 0, 1) := dk_get daX16_times_ 0 (r := (0, .iconst 0, 1)) rfl
theorem dX16_times__1 : decode cX16_times_ 1 = .ok (.istore 4, 2) := dk_get daX16_times_ 1 (r := (1, .istore 4, 2)) rfl
theorem dX16_times__3 : decode cX16_times_ 3 = .ok (.iload 4, 2) := dk_get daX16_times_ 2 (r := (3, .iload 4, 2)) rfl
theorem dX16_times__5 : decode cX16_times_ 5 = .ok (.bipush 8, 2) := dk_get daX16_times_ 3 (r := (5, .bipush 8, 2)) rfl
theorem dX16_times__7 : decode cX16_times_ 7 = .ok (.if_icmp .ge 17, 3) := dk_get daX16_times_ 4 (r := (7, .if_icmp .ge 17, 3)) rfl
theorem dX16_times__10 : decode cX16_times_ 10 = .ok (.aload_n 3, 1) := dk_get daX16_times_ 5 (r := (10, .aload_n 3, 1)) rfl
theorem dX16_times__11 : decode cX16_times_ 11 = .ok (.getfield 90, 3) := dk_get daX16_times_ 6 (r := (11, .getfield 90, 3)) rfl
theorem dX16_times__14 : decode cX16_times_ 14 = .ok (.iload 4, 2) := dk_get daX16_times_ 7 (r := (14, .iload 4, 2)) rfl
theorem dX16_times__16 : decode cX16_times_ 16 = .ok (.iconst 0, 1) := dk_get daX16_times_ 8 (r := (16, .iconst 0, 1)) rfl
theorem dX16_times__17 : decode cX16_times_ 17 = .ok (.iastore, 1) := dk_get daX16_times_ 9 (r := (17, .iastore, 1)) rfl
theorem dX16_times__18 : decode cX16_times_ 18 = .ok (.iinc 4 1, 3) := dk_get daX16_times_ 10 (r := (18, .iinc 4 1, 3)) rfl
theorem dX16_times__21 : decode cX16_times_ 21 = .ok (.goto (-18), 3) := dk_get daX16_times_ 11 (r := (21, .goto (-18), 3)) rfl
theorem dX16_times__24 : decode cX16_times_ 24 = .ok (.sipush 255, 3) := dk_get daX16_times_ 12 (r := (24, .sipush 255, 3)) rfl
theorem dX16_times__27 : decode cX16_times_ 27 = .ok (.istore 4, 2) := dk_get daX16_times_ 13 (r := (27, .istore 4, 2)) rfl
theorem dX16_times__29 : decode cX16_times_ 29 = .ok (.iload 4, 2) := dk_get daX16_times_ 14 (r := (29, .iload 4, 2)) rfl
theorem dX16_times__31 : decode cX16_times_ 31 = .ok (.ifCond .lt 39, 3) := dk_get daX16_times_ 15 (r := (31, .ifCond .lt 39, 3)) rfl
theorem dX16_times__34 : decode cX16_times_ 34 = .ok (.aload_n 0, 1) := dk_get daX16_times_ 16 (r := (34, .aload_n 0, 1)) rfl
theorem dX16_times__35 : decode cX16_times_ 35 = .ok (.aload_n 3, 1) := dk_get daX16_times_ 17 (r := (35, .aload_n 3, 1)) rfl
theorem dX16_times__36 : decode cX16_times_ 36 = .ok (.invokevirtual 140, 3) := dk_get daX16_times_ 18 (r := (36, .invokevirtual 140, 3)) rfl
theorem dX16_times__39 : decode cX16_times_ 39 = .ok (.aload_n 1, 1) := dk_get daX16_times_ 19 (r := (39, .aload_n 1, 1)) rfl
theorem dX16_times__40 : decode cX16_times_ 40 = .ok (.iload 4, 2) := dk_get daX16_times_ 20 (r := (40, .iload 4, 2)) rfl
theorem dX16_times__42 : decode cX16_times_ 42 = .ok (.bipush 32, 2) := dk_get daX16_times_ 21 (r := (42, .bipush 32, 2)) rfl
theorem dX16_times__44 : decode cX16_times_ 44 = .ok (.idiv, 1) := dk_get daX16_times_ 22 (r := (44, .idiv, 1)) rfl
theorem dX16_times__45 : decode cX16_times_ 45 = .ok (.iaload, 1) := dk_get daX16_times_ 23 (r := (45, .iaload, 1)) rfl
theorem dX16_times__46 : decode cX16_times_ 46 = .ok (.iload 4, 2) := dk_get daX16_times_ 24 (r := (46, .iload 4, 2)) rfl
theorem dX16_times__48 : decode cX16_times_ 48 = .ok (.bipush 32, 2) := dk_get daX16_times_ 25 (r := (48, .bipush 32, 2)) rfl
theorem dX16_times__50 : decode cX16_times_ 50 = .ok (.irem, 1) := dk_get daX16_times_ 26 (r := (50, .irem, 1)) rfl
theorem dX16_times__51 : decode cX16_times_ 51 = .ok (.ishr, 1) := dk_get daX16_times_ 27 (r := (51, .ishr, 1)) rfl
theorem dX16_times__52 : decode cX16_times_ 52 = .ok (.iconst 1, 1) := dk_get daX16_times_ 28 (r := (52, .iconst 1, 1)) rfl
theorem dX16_times__53 : decode cX16_times_ 53 = .ok (.iand, 1) := dk_get daX16_times_ 29 (r := (53, .iand, 1)) rfl
theorem dX16_times__54 : decode cX16_times_ 54 = .ok (.iconst 1, 1) := dk_get daX16_times_ 30 (r := (54, .iconst 1, 1)) rfl
theorem dX16_times__55 : decode cX16_times_ 55 = .ok (.if_icmp .ne 9, 3) := dk_get daX16_times_ 31 (r := (55, .if_icmp .ne 9, 3)) rfl
theorem dX16_times__58 : decode cX16_times_ 58 = .ok (.aload_n 0, 1) := dk_get daX16_times_ 32 (r := (58, .aload_n 0, 1)) rfl
theorem dX16_times__59 : decode cX16_times_ 59 = .ok (.aload_n 3, 1) := dk_get daX16_times_ 33 (r := (59, .aload_n 3, 1)) rfl
theorem dX16_times__60 : decode cX16_times_ 60 = .ok (.aload_n 2, 1) := dk_get daX16_times_ 34 (r := (60, .aload_n 2, 1)) rfl
theorem dX16_times__61 : decode cX16_times_ 61 = .ok (.invokevirtual 143, 3) := dk_get daX16_times_ 35 (r := (61, .invokevirtual 143, 3)) rfl
theorem dX16_times__64 : decode cX16_times_ 64 = .ok (.iinc 4 (-1), 3) := dk_get daX16_times_ 36 (r := (64, .iinc 4 (-1), 3)) rfl
theorem dX16_times__67 : decode cX16_times_ 67 = .ok (.goto (-38), 3) := dk_get daX16_times_ 37 (r := (67, .goto (-38), 3)) rfl
theorem dX16_times__70 : decode cX16_times_ 70 = .ok (.return_, 1) := dk_get daX16_times_ 38 (r := (70, .return_, 1)) rfl
abbrev mX16_flat : ks_M := (RX16, cX16_flat, 4, none, "flat")
def drX16_flat : List (Nat × Instr × Nat) := [(0, .aload_n 0, 1), (1, .getfield 101, 3), (4, .aload_n 1, 1), (5, .getfield 90, 3), (8, .bipush (-2), 2), (10, .iconst 0, 1), (11, .aload_n 0, 1), (12, .getfield 108, 3), (15, .invokevirtual 147, 3), (18, .aload_n 0, 1), (19, .getfield 101, 3), (22, .aload_n 0, 1), (23, .getfield 108, 3), (26, .aload_n 0, 1), (27, .getfield 108, 3), (30, .aload_n 0, 1), (31, .getfield 118, 3), (34, .invokevirtual 111, 3), (37, .aload_n 0, 1), (38, .getfield 101, 3), (41, .aload_n 1, 1), (42, .getfield 115, 3), (45, .aload_n 0, 1), (46, .getfield 118, 3), (49, .aload_n 2, 1), (50, .invokevirtual 111, 3), (53, .aload_n 0, 1), (54, .getfield 101, 3), (57, .aload_n 0, 1), (58, .getfield 118, 3), (61, .aload_n 0, 1), (62, .getfield 108, 3), (65, .aload_n 0, 1), (66, .getfield 118, 3), (69, .invokevirtual 111, 3), (72, .aload_n 0, 1), (73, .getfield 101, 3), (76, .aload_n 1, 1), (77, .getfield 105, 3), (80, .aload_n 0, 1), (81, .getfield 118, 3), (84, .aload_n 3, 1), (85, .invokevirtual 111, 3), (88, .aload_n 0, 1), (89, .getfield 101, 3), (92, .aload_n 2, 1), (93, .aload_n 2, 1), (94, .invokevirtual 151, 3), (97, .aload_n 0, 1), (98, .getfield 101, 3), (101, .aload_n 3, 1), (102, .aload_n 3, 1), (103, .invokevirtual 151, 3), (106, .return_, 1)]
set_option maxRecDepth 100000 in
theorem daX16_flat : dk_all cX16_flat drX16_flat = true := by decide +kernel
theorem dX16_flat_0 : decode cX16_flat 0 = .ok (.aload_n 0, 1) := dk_get daX16_flat 0 (r := (0, .aload_n 0, 1)) rfl
theorem dX16_flat_1 : decode cX16_flat 1 = .ok (.getfield 101, 3) := dk_get daX16_flat 1 (r := (1, .getfield 101, 3)) rfl
theorem dX16_flat_4 : decode cX16_flat 4 = .ok (.aload_n 1, 1) := dk_get daX16_flat 2 (r := (4, .aload_n 1, 1)) rfl
theorem dX16_flat_5 : decode cX16_flat 5 = .ok (.getfield 90, 3) := dk_get daX16_flat 3 (r := (5, .getfield 90, 3)) rfl
theorem dX16_flat_8 : decode cX16_flat 8 = .ok (.bipush (-2), 2) := dk_get daX16_flat 4 (r := (8, .bipush (-2), 2)) rfl
theorem dX16_flat_10 : decode cX16_flat 10 = .ok (.iconst 0, 1) := dk_get daX16_flat 5 (r := (10, .iconst 0, 1)) rfl
theorem dX16_flat_11 : decode cX16_flat 11 = .ok (.aload_n 0, 1) := dk_get daX16_flat 6 (r := (11, .aload_n 0, 1)) rfl
theorem dX16_flat_12 : decode cX16_flat 12 = .ok (.getfield 108, 3) := dk_get daX16_flat 7 (r := (12, .getfield 108, 3)) rfl
theorem dX16_flat_15 : decode cX16_flat 15 = .ok (.invokevirtual 147, 3) := dk_get daX16_flat 8 (r := (15, .invokevirtual 147, 3)) rfl
theorem dX16_flat_18 : decode cX16_flat 18 = .ok (.aload_n 0, 1) := dk_get daX16_flat 9 (r := (18, .aload_n 0, 1)) rfl
theorem dX16_flat_19 : decode cX16_flat 19 = .ok (.getfield 101, 3) := dk_get daX16_flat 10 (r := (19, .getfield 101, 3)) rfl
theorem dX16_flat_22 : decode cX16_flat 22 = .ok (.aload_n 0, 1) := dk_get daX16_flat 11 (r := (22, .aload_n 0, 1)) rfl
theorem dX16_flat_23 : decode cX16_flat 23 = .ok (.getfield 108, 3) := dk_get daX16_flat 12 (r := (23, .getfield 108, 3)) rfl
theorem dX16_flat_26 : decode cX16_flat 26 = .ok (.aload_n 0, 1) := dk_get daX16_flat 13 (r := (26, .aload_n 0, 1)) rfl
theorem dX16_flat_27 : decode cX16_flat 27 = .ok (.getfield 108, 3) := dk_get daX16_flat 14 (r := (27, .getfield 108, 3)) rfl
theorem dX16_flat_30 : decode cX16_flat 30 = .ok (.aload_n 0, 1) := dk_get daX16_flat 15 (r := (30, .aload_n 0, 1)) rfl
theorem dX16_flat_31 : decode cX16_flat 31 = .ok (.getfield 118, 3) := dk_get daX16_flat 16 (r := (31, .getfield 118, 3)) rfl
theorem dX16_flat_34 : decode cX16_flat 34 = .ok (.invokevirtual 111, 3) := dk_get daX16_flat 17 (r := (34, .invokevirtual 111, 3)) rfl
theorem dX16_flat_37 : decode cX16_flat 37 = .ok (.aload_n 0, 1) := dk_get daX16_flat 18 (r := (37, .aload_n 0, 1)) rfl
theorem dX16_flat_38 : decode cX16_flat 38 = .ok (.getfield 101, 3) := dk_get daX16_flat 19 (r := (38, .getfield 101, 3)) rfl
theorem dX16_flat_41 : decode cX16_flat 41 = .ok (.aload_n 1, 1) := dk_get daX16_flat 20 (r := (41, .aload_n 1, 1)) rfl
theorem dX16_flat_42 : decode cX16_flat 42 = .ok (.getfield 115, 3) := dk_get daX16_flat 21 (r := (42, .getfield 115, 3)) rfl
theorem dX16_flat_45 : decode cX16_flat 45 = .ok (.aload_n 0, 1) := dk_get daX16_flat 22 (r := (45, .aload_n 0, 1)) rfl
theorem dX16_flat_46 : decode cX16_flat 46 = .ok (.getfield 118, 3) := dk_get daX16_flat 23 (r := (46, .getfield 118, 3)) rfl
theorem dX16_flat_49 : decode cX16_flat 49 = .ok (.aload_n 2, 1) := dk_get daX16_flat 24 (r := (49, .aload_n 2, 1)) rfl
theorem dX16_flat_50 : decode cX16_flat 50 = .ok (.invokevirtual 111, 3) := dk_get daX16_flat 25 (r := (50, .invokevirtual 111, 3)) rfl
theorem dX16_flat_53 : decode cX16_flat 53 = .ok (.aload_n 0, 1) := dk_get daX16_flat 26 (r := (53, .aload_n 0, 1)) rfl
theorem dX16_flat_54 : decode cX16_flat 54 = .ok (.getfield 101, 3) := dk_get daX16_flat 27 (r := (54, .getfield 101, 3)) rfl
theorem dX16_flat_57 : decode cX16_flat 57 = .ok (.aload_n 0, 1) := dk_get daX16_flat 28 (r := (57, .aload_n 0, 1)) rfl
theorem dX16_flat_58 : decode cX16_flat 58 = .ok (.getfield 118, 3) := dk_get daX16_flat 29 (r := (58, .getfield 118, 3)) rfl
theorem dX16_flat_61 : decode cX16_flat 61 = .ok (.aload_n 0, 1) := dk_get daX16_flat 30 (r := (61, .aload_n 0, 1)) rfl
theorem dX16_flat_62 : decode cX16_flat 62 = .ok (.getfield 108, 3) := dk_get daX16_flat 31 (r := (62, .getfield 108, 3)) rfl
theorem dX16_flat_65 : decode cX16_flat 65 = .ok (.aload_n 0, 1) := dk_get daX16_flat 32 (r := (65, .aload_n 0, 1)) rfl
theorem dX16_flat_66 : decode cX16_flat 66 = .ok (.getfield 118, 3) := dk_get daX16_flat 33 (r := (66, .getfield 118, 3)) rfl
theorem dX16_flat_69 : decode cX16_flat 69 = .ok (.invokevirtual 111, 3) := dk_get daX16_flat 34 (r := (69, .invokevirtual 111, 3)) rfl
theorem dX16_flat_72 : decode cX16_flat 72 = .ok (.aload_n 0, 1) := dk_get daX16_flat 35 (r := (72, .aload_n 0, 1)) rfl
theorem dX16_flat_73 : decode cX16_flat 73 = .ok (.getfield 101, 3) := dk_get daX16_flat 36 (r := (73, .getfield 101, 3)) rfl
theorem dX16_flat_76 : decode cX16_flat 76 = .ok (.aload_n 1, 1) := dk_get daX16_flat 37 (r := (76, .aload_n 1, 1)) rfl
theorem dX16_flat_77 : decode cX16_flat 77 = .ok (.getfield 105, 3) := dk_get daX16_flat 38 (r := (77, .getfield 105, 3)) rfl
theorem dX16_flat_80 : decode cX16_flat 80 = .ok (.aload_n 0, 1) := dk_get daX16_flat 39 (r := (80, .aload_n 0, 1)) rfl
theorem dX16_flat_81 : decode cX16_flat 81 = .ok (.getfield 118, 3) := dk_get daX16_flat 40 (r := (81, .getfield 118, 3)) rfl
theorem dX16_flat_84 : decode cX16_flat 84 = .ok (.aload_n 3, 1) := dk_get daX16_flat 41 (r := (84, .aload_n 3, 1)) rfl
theorem dX16_flat_85 : decode cX16_flat 85 = .ok (.invokevirtual 111, 3) := dk_get daX16_flat 42 (r := (85, .invokevirtual 111, 3)) rfl
theorem dX16_flat_88 : decode cX16_flat 88 = .ok (.aload_n 0, 1) := dk_get daX16_flat 43 (r := (88, .aload_n 0, 1)) rfl
theorem dX16_flat_89 : decode cX16_flat 89 = .ok (.getfield 101, 3) := dk_get daX16_flat 44 (r := (89, .getfield 101, 3)) rfl
theorem dX16_flat_92 : decode cX16_flat 92 = .ok (.aload_n 2, 1) := dk_get daX16_flat 45 (r := (92, .aload_n 2, 1)) rfl
theorem dX16_flat_93 : decode cX16_flat 93 = .ok (.aload_n 2, 1) := dk_get daX16_flat 46 (r := (93, .aload_n 2, 1)) rfl
theorem dX16_flat_94 : decode cX16_flat 94 = .ok (.invokevirtual 151, 3) := dk_get daX16_flat 47 (r := (94, .invokevirtual 151, 3)) rfl
theorem dX16_flat_97 : decode cX16_flat 97 = .ok (.aload_n 0, 1) := dk_get daX16_flat 48 (r := (97, .aload_n 0, 1)) rfl
theorem dX16_flat_98 : decode cX16_flat 98 = .ok (.getfield 101, 3) := dk_get daX16_flat 49 (r := (98, .getfield 101, 3)) rfl
theorem dX16_flat_101 : decode cX16_flat 101 = .ok (.aload_n 3, 1) := dk_get daX16_flat 50 (r := (101, .aload_n 3, 1)) rfl
theorem dX16_flat_102 : decode cX16_flat 102 = .ok (.aload_n 3, 1) := dk_get daX16_flat 51 (r := (102, .aload_n 3, 1)) rfl
theorem dX16_flat_103 : decode cX16_flat 103 = .ok (.invokevirtual 151, 3) := dk_get daX16_flat 52 (r := (103, .invokevirtual 151, 3)) rfl
theorem dX16_flat_106 : decode cX16_flat 106 = .ok (.return_, 1) := dk_get daX16_flat 53 (r := (106, .return_, 1)) rfl
abbrev mX16_readKey : ks_M := (RX16, cX16_readKey, 5, (some .boolean), "readKey")
def drX16_readKey : List (Nat × Instr × Nat) := [(0, .iload_n 2, 1), (1, .bipush 33, 2), (3, .if_icmp .ne 21, 3), (6, .aload_n 1, 1), (7, .iconst 0, 1), (8, .baload, 1), (9, .iconst 2, 1), (10, .if_icmp .eq 10, 3), (13, .aload_n 1, 1), (14, .iconst 0, 1), (15, .baload, 1), (16, .iconst 3, 1), (17, .if_icmp .ne 7, 3), (20, .iconst 1, 1), (21, .goto 4, 3), (24, .iconst 0, 1), (25, .istore_n 3, 1), (26, .iload_n 3, 1), (27, .ifCond .ne 18, 3), (30, .iload_n 2, 1), (31, .bipush 65, 2), (33, .if_icmp .ne 10, 3), (36, .aload_n 1, 1), (37, .iconst 0, 1), (38, .baload, 1), (39, .iconst 4, 1), (40, .if_icmp .eq 5, 3), (43, .iconst 0, 1), (44, .ireturn, 1), (45, .aload_n 1, 1), (46, .iconst 1, 1), (47, .iconst 1, 1), (48, .aload_n 0, 1), (49, .getfield 155, 3), (52, .invokestatic 158, 3), (55, .aload_n 0, 1), (56, .getfield 155, 3), (59, .aload_n 0, 1), (60, .getfield 101, 3), (63, .getfield 162, 3), (66, .invokestatic 165, 3), (69, .ifCond .lt 5, 3), (72, .iconst 0, 1), (73, .ireturn, 1), (74, .aload_n 0, 1), (75, .getfield 101, 3), (78, .aload_n 0, 1), (79, .getfield 155, 3), (82, .aload_n 0, 1), (83, .getfield 169, 3), (86, .getfield 115, 3), (89, .invokevirtual 173, 3), (92, .aload_n 0, 1), (93, .getfield 101, 3), (96, .aload_n 0, 1), (97, .getfield 169, 3), (100, .getfield 115, 3), (103, .aload_n 0, 1), (104, .getfield 169, 3), (107, .getfield 115, 3), (110, .aload_n 0, 1), (111, .getfield 108, 3), (114, .invokevirtual 111, 3), (117, .aload_n 0, 1), (118, .getfield 101, 3), (121, .aload_n 0, 1), (122, .getfield 108, 3), (125, .aload_n 0, 1), (126, .getfield 169, 3), (129, .getfield 115, 3), (132, .aload_n 0, 1), (133, .getfield 108, 3), (136, .invokevirtual 111, 3), (139, .aload_n 0, 1), (140, .getfield 101, 3), (143, .aload_n 0, 1), (144, .getfield 108, 3), (147, .aload_n 0, 1), (148, .getfield 176, 3), (151, .aload_n 0, 1), (152, .getfield 108, 3), (155, .invokevirtual 121, 3), (158, .aload_n 0, 1), (159, .getfield 101, 3), (162, .getfield 179, 3), (165, .aload_n 0, 1), (166, .getfield 169, 3), (169, .getfield 90, 3), (172, .invokestatic 182, 3), (175, .iload_n 3, 1), (176, .ifCond .ne 88, 3), (179, .aload_n 1, 1), (180, .bipush 33, 2), (182, .iconst 1, 1), (183, .aload_n 0, 1), (184, .getfield 185, 3), (187, .invokestatic 158, 3), (190, .aload_n 0, 1), (191, .getfield 185, 3), (194, .aload_n 0, 1), (195, .getfield 101, 3), (198, .getfield 162, 3), (201, .invokestatic 165, 3), (204, .ifCond .lt 5, 3), (207, .iconst 0, 1), (208, .ireturn, 1), (209, .aload_n 0, 1), (210, .getfield 101, 3), (213, .aload_n 0, 1), (214, .getfield 185, 3), (217, .aload_n 0, 1), (218, .getfield 169, 3), (221, .getfield 105, 3), (224, .invokevirtual 173, 3), (227, .aload_n 0, 1), (228, .getfield 101, 3), (231, .aload_n 0, 1), (232, .getfield 169, 3), (235, .getfield 105, 3), (238, .aload_n 0, 1), (239, .getfield 169, 3), (242, .getfield 105, 3), (245, .aload_n 0, 1), (246, .getfield 118, 3), (249, .invokevirtual 111, 3), (252, .aload_n 0, 1), (253, .getfield 108, 3), (256, .aload_n 0, 1), (257, .getfield 118, 3), (260, .invokestatic 188, 3), (263, .ireturn, 1), (264, .aload_n 0, 1), (265, .getfield 108, 3), (268, .aload_n 0, 1), (269, .getfield 124, 3), (272, .invokestatic 182, 3), (275, .aload_n 0, 1), (276, .getfield 101, 3), (279, .aload_n 0, 1), (280, .getfield 108, 3), (283, .iconst 1, 1), (284, .iconst 2, 1), (285, .aload_n 0, 1), (286, .getfield 169, 3), (289, .getfield 105, 3), (292, .invokevirtual 147, 3), (295, .aload_n 0, 1), (296, .getfield 101, 3), (299, .aload_n 0, 1), (300, .getfield 169, 3), (303, .getfield 105, 3), (306, .aload_n 0, 1), (307, .getfield 169, 3), (310, .getfield 105, 3), (313, .aload_n 0, 1), (314, .getfield 118, 3), (317, .invokevirtual 111, 3), (320, .aload_n 0, 1), (321, .getfield 118, 3), (324, .aload_n 0, 1), (325, .getfield 124, 3), (328, .invokestatic 188, 3), (331, .ifCond .ne 5, 3), (334, .iconst 0, 1), (335, .ireturn, 1), (336, .aload_n 0, 1), (337, .getfield 101, 3), (340, .aload_n 0, 1), (341, .getfield 169, 3), (344, .getfield 105, 3), (347, .aload_n 0, 1), (348, .getfield 185, 3), (351, .invokevirtual 151, 3), (354, .aload_n 0, 1), (355, .getfield 185, 3), (358, .iconst 0, 1), (359, .iaload, 1), (360, .iconst 1, 1), (361, .iand, 1), (362, .aload_n 1, 1), (363, .iconst 0, 1), (364, .baload, 1), (365, .iconst 2, 1), (366, .isub, 1), (367, .if_icmp .eq 52, 3), (370, .iconst 0, 1), (371, .istore 4, 2), (373, .iload 4, 2), (375, .bipush 8, 2), (377, .if_icmp .ge 17, 3), (380, .aload_n 0, 1), (381, .getfield 127, 3), (384, .iload 4, 2), (386, .iconst 0, 1), (387, .iastore, 1), (388, .iinc 4 1, 3), (391, .goto (-18), 3), (394, .aload_n 0, 1), (395, .getfield 101, 3), (398, .aload_n 0, 1), (399, .getfield 127, 3), (402, .aload_n 0, 1), (403, .getfield 169, 3), (406, .getfield 105, 3), (409, .aload_n 0, 1), (410, .getfield 169, 3), (413, .getfield 105, 3), (416, .invokevirtual 133, 3), (419, .iconst 1, 1), (420, .ireturn, 1)]
set_option maxRecDepth 100000 in
theorem daX16_readKey : dk_all cX16_readKey drX16_readKey = true := by decide +kernel
theorem dX16_readKey_0 : decode cX16_readKey 0 = .ok (.iload_n 2, 1) := dk_get daX16_readKey 0 (r := (0, .iload_n 2, 1)) rfl
theorem dX16_readKey_1 : decode cX16_readKey 1 = .ok (.bipush 33, 2) := dk_get daX16_readKey 1 (r := (1, .bipush 33, 2)) rfl
theorem dX16_readKey_3 : decode cX16_readKey 3 = .ok (.if_icmp .ne 21, 3) := dk_get daX16_readKey 2 (r := (3, .if_icmp .ne 21, 3)) rfl
theorem dX16_readKey_6 : decode cX16_readKey 6 = .ok (.aload_n 1, 1) := dk_get daX16_readKey 3 (r := (6, .aload_n 1, 1)) rfl
theorem dX16_readKey_7 : decode cX16_readKey 7 = .ok (.iconst 0, 1) := dk_get daX16_readKey 4 (r := (7, .iconst 0, 1)) rfl
theorem dX16_readKey_8 : decode cX16_readKey 8 = .ok (.baload, 1) := dk_get daX16_readKey 5 (r := (8, .baload, 1)) rfl
theorem dX16_readKey_9 : decode cX16_readKey 9 = .ok (.iconst 2, 1) := dk_get daX16_readKey 6 (r := (9, .iconst 2, 1)) rfl
theorem dX16_readKey_10 : decode cX16_readKey 10 = .ok (.if_icmp .eq 10, 3) := dk_get daX16_readKey 7 (r := (10, .if_icmp .eq 10, 3)) rfl
theorem dX16_readKey_13 : decode cX16_readKey 13 = .ok (.aload_n 1, 1) := dk_get daX16_readKey 8 (r := (13, .aload_n 1, 1)) rfl
theorem dX16_readKey_14 : decode cX16_readKey 14 = .ok (.iconst 0, 1) := dk_get daX16_readKey 9 (r := (14, .iconst 0, 1)) rfl
theorem dX16_readKey_15 : decode cX16_readKey 15 = .ok (.baload, 1) := dk_get daX16_readKey 10 (r := (15, .baload, 1)) rfl
theorem dX16_readKey_16 : decode cX16_readKey 16 = .ok (.iconst 3, 1) := dk_get daX16_readKey 11 (r := (16, .iconst 3, 1)) rfl
theorem dX16_readKey_17 : decode cX16_readKey 17 = .ok (.if_icmp .ne 7, 3) := dk_get daX16_readKey 12 (r := (17, .if_icmp .ne 7, 3)) rfl
theorem dX16_readKey_20 : decode cX16_readKey 20 = .ok (.iconst 1, 1) := dk_get daX16_readKey 13 (r := (20, .iconst 1, 1)) rfl
theorem dX16_readKey_21 : decode cX16_readKey 21 = .ok (.goto 4, 3) := dk_get daX16_readKey 14 (r := (21, .goto 4, 3)) rfl
theorem dX16_readKey_24 : decode cX16_readKey 24 = .ok (.iconst 0, 1) := dk_get daX16_readKey 15 (r := (24, .iconst 0, 1)) rfl
theorem dX16_readKey_25 : decode cX16_readKey 25 = .ok (.istore_n 3, 1) := dk_get daX16_readKey 16 (r := (25, .istore_n 3, 1)) rfl
theorem dX16_readKey_26 : decode cX16_readKey 26 = .ok (.iload_n 3, 1) := dk_get daX16_readKey 17 (r := (26, .iload_n 3, 1)) rfl
theorem dX16_readKey_27 : decode cX16_readKey 27 = .ok (.ifCond .ne 18, 3) := dk_get daX16_readKey 18 (r := (27, .ifCond .ne 18, 3)) rfl
theorem dX16_readKey_30 : decode cX16_readKey 30 = .ok (.iload_n 2, 1) := dk_get daX16_readKey 19 (r := (30, .iload_n 2, 1)) rfl
theorem dX16_readKey_31 : decode cX16_readKey 31 = .ok (.bipush 65, 2) := dk_get daX16_readKey 20 (r := (31, .bipush 65, 2)) rfl
theorem dX16_readKey_33 : decode cX16_readKey 33 = .ok (.if_icmp .ne 10, 3) := dk_get daX16_readKey 21 (r := (33, .if_icmp .ne 10, 3)) rfl
theorem dX16_readKey_36 : decode cX16_readKey 36 = .ok (.aload_n 1, 1) := dk_get daX16_readKey 22 (r := (36, .aload_n 1, 1)) rfl
theorem dX16_readKey_37 : decode cX16_readKey 37 = .ok (.iconst 0, 1) := dk_get daX16_readKey 23 (r := (37, .iconst 0, 1)) rfl
theorem dX16_readKey_38 : decode cX16_readKey 38 = .ok (.baload, 1) := dk_get daX16_readKey 24 (r := (38, .baload, 1)) rfl
theorem dX16_readKey_39 : decode cX16_readKey 39 = .ok (.iconst 4, 1) := dk_get daX16_readKey 25 (r := (39, .iconst 4, 1)) rfl
theorem dX16_readKey_40 : decode cX16_readKey 40 = .ok (.if_icmp .eq 5, 3) := dk_get daX16_readKey 26 (r := (40, .if_icmp .eq 5, 3)) rfl
theorem dX16_readKey_43 : decode cX16_readKey 43 = .ok (.iconst 0, 1) := dk_get daX16_readKey 27 (r := (43, .iconst 0, 1)) rfl
theorem dX16_readKey_44 : decode cX16_readKey 44 = .ok (.ireturn, 1) := dk_get daX16_readKey 28 (r := (44, .ireturn, 1)) rfl
theorem dX16_readKey_45 : decode cX16_readKey 45 = .ok (.aload_n 1, 1) := dk_get daX16_readKey 29 (r := (45, .aload_n 1, 1)) rfl
theorem dX16_readKey_46 : decode cX16_readKey 46 = .ok (.iconst 1, 1) := dk_get daX16_readKey 30 (r := (46, .iconst 1, 1)) rfl
theorem dX16_readKey_47 : decode cX16_readKey 47 = .ok (.iconst 1, 1) := dk_get daX16_readKey 31 (r := (47, .iconst 1, 1)) rfl
theorem dX16_readKey_48 : decode cX16_readKey 48 = .ok (.aload_n 0, 1) := dk_get daX16_readKey 32 (r := (48, .aload_n 0, 1)) rfl
theorem dX16_readKey_49 : decode cX16_readKey 49 = .ok (.getfield 155, 3) := dk_get daX16_readKey 33 (r := (49, .getfield 155, 3)) rfl
theorem dX16_readKey_52 : decode cX16_readKey 52 = .ok (.invokestatic 158, 3) := dk_get daX16_readKey 34 (r := (52, .invokestatic 158, 3)) rfl
theorem dX16_readKey_55 : decode cX16_readKey 55 = .ok (.aload_n 0, 1) := dk_get daX16_readKey 35 (r := (55, .aload_n 0, 1)) rfl
theorem dX16_readKey_56 : decode cX16_readKey 56 = .ok (.getfield 155, 3) := dk_get daX16_readKey 36 (r := (56, .getfield 155, 3)) rfl
theorem dX16_readKey_59 : decode cX16_readKey 59 = .ok (.aload_n 0, 1) := dk_get daX16_readKey 37 (r := (59, .aload_n 0, 1)) rfl
theorem dX16_readKey_60 : decode cX16_readKey 60 = .ok (.getfield 101, 3) := dk_get daX16_readKey 38 (r := (60, .getfield 101, 3)) rfl
theorem dX16_readKey_63 : decode cX16_readKey 63 = .ok (.getfield 162, 3) := dk_get daX16_readKey 39 (r := (63, .getfield 162, 3)) rfl
theorem dX16_readKey_66 : decode cX16_readKey 66 = .ok (.invokestatic 165, 3) := dk_get daX16_readKey 40 (r := (66, .invokestatic 165, 3)) rfl
theorem dX16_readKey_69 : decode cX16_readKey 69 = .ok (.ifCond .lt 5, 3) := dk_get daX16_readKey 41 (r := (69, .ifCond .lt 5, 3)) rfl
theorem dX16_readKey_72 : decode cX16_readKey 72 = .ok (.iconst 0, 1) := dk_get daX16_readKey 42 (r := (72, .iconst 0, 1)) rfl
theorem dX16_readKey_73 : decode cX16_readKey 73 = .ok (.ireturn, 1) := dk_get daX16_readKey 43 (r := (73, .ireturn, 1)) rfl
theorem dX16_readKey_74 : decode cX16_readKey 74 = .ok (.aload_n 0, 1) := dk_get daX16_readKey 44 (r := (74, .aload_n 0, 1)) rfl
theorem dX16_readKey_75 : decode cX16_readKey 75 = .ok (.getfield 101, 3) := dk_get daX16_readKey 45 (r := (75, .getfield 101, 3)) rfl
theorem dX16_readKey_78 : decode cX16_readKey 78 = .ok (.aload_n 0, 1) := dk_get daX16_readKey 46 (r := (78, .aload_n 0, 1)) rfl
theorem dX16_readKey_79 : decode cX16_readKey 79 = .ok (.getfield 155, 3) := dk_get daX16_readKey 47 (r := (79, .getfield 155, 3)) rfl
theorem dX16_readKey_82 : decode cX16_readKey 82 = .ok (.aload_n 0, 1) := dk_get daX16_readKey 48 (r := (82, .aload_n 0, 1)) rfl
theorem dX16_readKey_83 : decode cX16_readKey 83 = .ok (.getfield 169, 3) := dk_get daX16_readKey 49 (r := (83, .getfield 169, 3)) rfl
theorem dX16_readKey_86 : decode cX16_readKey 86 = .ok (.getfield 115, 3) := dk_get daX16_readKey 50 (r := (86, .getfield 115, 3)) rfl
theorem dX16_readKey_89 : decode cX16_readKey 89 = .ok (.invokevirtual 173, 3) := dk_get daX16_readKey 51 (r := (89, .invokevirtual 173, 3)) rfl
theorem dX16_readKey_92 : decode cX16_readKey 92 = .ok (.aload_n 0, 1) := dk_get daX16_readKey 52 (r := (92, .aload_n 0, 1)) rfl
theorem dX16_readKey_93 : decode cX16_readKey 93 = .ok (.getfield 101, 3) := dk_get daX16_readKey 53 (r := (93, .getfield 101, 3)) rfl
theorem dX16_readKey_96 : decode cX16_readKey 96 = .ok (.aload_n 0, 1) := dk_get daX16_readKey 54 (r := (96, .aload_n 0, 1)) rfl
theorem dX16_readKey_97 : decode cX16_readKey 97 = .ok (.getfield 169, 3) := dk_get daX16_readKey 55 (r := (97, .getfield 169, 3)) rfl
theorem dX16_readKey_100 : decode cX16_readKey 100 = .ok (.getfield 115, 3) := dk_get daX16_readKey 56 (r := (100, .getfield 115, 3)) rfl
theorem dX16_readKey_103 : decode cX16_readKey 103 = .ok (.aload_n 0, 1) := dk_get daX16_readKey 57 (r := (103, .aload_n 0, 1)) rfl
theorem dX16_readKey_104 : decode cX16_readKey 104 = .ok (.getfield 169, 3) := dk_get daX16_readKey 58 (r := (104, .getfield 169, 3)) rfl
theorem dX16_readKey_107 : decode cX16_readKey 107 = .ok (.getfield 115, 3) := dk_get daX16_readKey 59 (r := (107, .getfield 115, 3)) rfl
theorem dX16_readKey_110 : decode cX16_readKey 110 = .ok (.aload_n 0, 1) := dk_get daX16_readKey 60 (r := (110, .aload_n 0, 1)) rfl
theorem dX16_readKey_111 : decode cX16_readKey 111 = .ok (.getfield 108, 3) := dk_get daX16_readKey 61 (r := (111, .getfield 108, 3)) rfl
theorem dX16_readKey_114 : decode cX16_readKey 114 = .ok (.invokevirtual 111, 3) := dk_get daX16_readKey 62 (r := (114, .invokevirtual 111, 3)) rfl
theorem dX16_readKey_117 : decode cX16_readKey 117 = .ok (.aload_n 0, 1) := dk_get daX16_readKey 63 (r := (117, .aload_n 0, 1)) rfl
theorem dX16_readKey_118 : decode cX16_readKey 118 = .ok (.getfield 101, 3) := dk_get daX16_readKey 64 (r := (118, .getfield 101, 3)) rfl
theorem dX16_readKey_121 : decode cX16_readKey 121 = .ok (.aload_n 0, 1) := dk_get daX16_readKey 65 (r := (121, .aload_n 0, 1)) rfl
theorem dX16_readKey_122 : decode cX16_readKey 122 = .ok (.getfield 108, 3) := dk_get daX16_readKey 66 (r := (122, .getfield 108, 3)) rfl
theorem dX16_readKey_125 : decode cX16_readKey 125 = .ok (.aload_n 0, 1) := dk_get daX16_readKey 67 (r := (125, .aload_n 0, 1)) rfl
theorem dX16_readKey_126 : decode cX16_readKey 126 = .ok (.getfield 169, 3) := dk_get daX16_readKey 68 (r := (126, .getfield 169, 3)) rfl
theorem dX16_readKey_129 : decode cX16_readKey 129 = .ok (.getfield 115, 3) := dk_get daX16_readKey 69 (r := (129, .getfield 115, 3)) rfl
theorem dX16_readKey_132 : decode cX16_readKey 132 = .ok (.aload_n 0, 1) := dk_get daX16_readKey 70 (r := (132, .aload_n 0, 1)) rfl
theorem dX16_readKey_133 : decode cX16_readKey 133 = .ok (.getfield 108, 3) := dk_get daX16_readKey 71 (r := (133, .getfield 108, 3)) rfl
theorem dX16_readKey_136 : decode cX16_readKey 136 = .ok (.invokevirtual 111, 3) := dk_get daX16_readKey 72 (r := (136, .invokevirtual 111, 3)) rfl
theorem dX16_readKey_139 : decode cX16_readKey 139 = .ok (.aload_n 0, 1) := dk_get daX16_readKey 73 (r := (139, .aload_n 0, 1)) rfl
theorem dX16_readKey_140 : decode cX16_readKey 140 = .ok (.getfield 101, 3) := dk_get daX16_readKey 74 (r := (140, .getfield 101, 3)) rfl
theorem dX16_readKey_143 : decode cX16_readKey 143 = .ok (.aload_n 0, 1) := dk_get daX16_readKey 75 (r := (143, .aload_n 0, 1)) rfl
theorem dX16_readKey_144 : decode cX16_readKey 144 = .ok (.getfield 108, 3) := dk_get daX16_readKey 76 (r := (144, .getfield 108, 3)) rfl
theorem dX16_readKey_147 : decode cX16_readKey 147 = .ok (.aload_n 0, 1) := dk_get daX16_readKey 77 (r := (147, .aload_n 0, 1)) rfl
theorem dX16_readKey_148 : decode cX16_readKey 148 = .ok (.getfield 176, 3) := dk_get daX16_readKey 78 (r := (148, .getfield 176, 3)) rfl
theorem dX16_readKey_151 : decode cX16_readKey 151 = .ok (.aload_n 0, 1) := dk_get daX16_readKey 79 (r := (151, .aload_n 0, 1)) rfl
theorem dX16_readKey_152 : decode cX16_readKey 152 = .ok (.getfield 108, 3) := dk_get daX16_readKey 80 (r := (152, .getfield 108, 3)) rfl
theorem dX16_readKey_155 : decode cX16_readKey 155 = .ok (.invokevirtual 121, 3) := dk_get daX16_readKey 81 (r := (155, .invokevirtual 121, 3)) rfl
theorem dX16_readKey_158 : decode cX16_readKey 158 = .ok (.aload_n 0, 1) := dk_get daX16_readKey 82 (r := (158, .aload_n 0, 1)) rfl
theorem dX16_readKey_159 : decode cX16_readKey 159 = .ok (.getfield 101, 3) := dk_get daX16_readKey 83 (r := (159, .getfield 101, 3)) rfl
theorem dX16_readKey_162 : decode cX16_readKey 162 = .ok (.getfield 179, 3) := dk_get daX16_readKey 84 (r := (162, .getfield 179, 3)) rfl
theorem dX16_readKey_165 : decode cX16_readKey 165 = .ok (.aload_n 0, 1) := dk_get daX16_readKey 85 (r := (165, .aload_n 0, 1)) rfl
theorem dX16_readKey_166 : decode cX16_readKey 166 = .ok (.getfield 169, 3) := dk_get daX16_readKey 86 (r := (166, .getfield 169, 3)) rfl
theorem dX16_readKey_169 : decode cX16_readKey 169 = .ok (.getfield 90, 3) := dk_get daX16_readKey 87 (r := (169, .getfield 90, 3)) rfl
theorem dX16_readKey_172 : decode cX16_readKey 172 = .ok (.invokestatic 182, 3) := dk_get daX16_readKey 88 (r := (172, .invokestatic 182, 3)) rfl
theorem dX16_readKey_175 : decode cX16_readKey 175 = .ok (.iload_n 3, 1) := dk_get daX16_readKey 89 (r := (175, .iload_n 3, 1)) rfl
theorem dX16_readKey_176 : decode cX16_readKey 176 = .ok (.ifCond .ne 88, 3) := dk_get daX16_readKey 90 (r := (176, .ifCond .ne 88, 3)) rfl
theorem dX16_readKey_179 : decode cX16_readKey 179 = .ok (.aload_n 1, 1) := dk_get daX16_readKey 91 (r := (179, .aload_n 1, 1)) rfl
theorem dX16_readKey_180 : decode cX16_readKey 180 = .ok (.bipush 33, 2) := dk_get daX16_readKey 92 (r := (180, .bipush 33, 2)) rfl
theorem dX16_readKey_182 : decode cX16_readKey 182 = .ok (.iconst 1, 1) := dk_get daX16_readKey 93 (r := (182, .iconst 1, 1)) rfl
theorem dX16_readKey_183 : decode cX16_readKey 183 = .ok (.aload_n 0, 1) := dk_get daX16_readKey 94 (r := (183, .aload_n 0, 1)) rfl
theorem dX16_readKey_184 : decode cX16_readKey 184 = .ok (.getfield 185, 3) := dk_get daX16_readKey 95 (r := (184, .getfield 185, 3)) rfl
theorem dX16_readKey_187 : decode cX16_readKey 187 = .ok (.invokestatic 158, 3) := dk_get daX16_readKey 96 (r := (187, .invokestatic 158, 3)) rfl
theorem dX16_readKey_190 : decode cX16_readKey 190 = .ok (.aload_n 0, 1) := dk_get daX16_readKey 97 (r := (190, .aload_n 0, 1)) rfl
theorem dX16_readKey_191 : decode cX16_readKey 191 = .ok (.getfield 185, 3) := dk_get daX16_readKey 98 (r := (191, .getfield 185, 3)) rfl
theorem dX16_readKey_194 : decode cX16_readKey 194 = .ok (.aload_n 0, 1) := dk_get daX16_readKey 99 (r := (194, .aload_n 0, 1)) rfl
theorem dX16_readKey_195 : decode cX16_readKey 195 = .ok (.getfield 101, 3) := dk_get daX16_readKey 100 (r := (195, .getfield 101, 3)) rfl
theorem dX16_readKey_198 : decode cX16_readKey 198 = .ok (.getfield 162, 3) := dk_get daX16_readKey 101 (r := (198, .getfield 162, 3)) rfl
theorem dX16_readKey_201 : decode cX16_readKey 201 = .ok (.invokestatic 165, 3) := dk_get daX16_readKey 102 (r := (201, .invokestatic 165, 3)) rfl
theorem dX16_readKey_204 : decode cX16_readKey 204 = .ok (.ifCond .lt 5, 3) := dk_get daX16_readKey 103 (r := (204, .ifCond .lt 5, 3)) rfl
theorem dX16_readKey_207 : decode cX16_readKey 207 = .ok (.iconst 0, 1) := dk_get daX16_readKey 104 (r := (207, .iconst 0, 1)) rfl
theorem dX16_readKey_208 : decode cX16_readKey 208 = .ok (.ireturn, 1) := dk_get daX16_readKey 105 (r := (208, .ireturn, 1)) rfl
theorem dX16_readKey_209 : decode cX16_readKey 209 = .ok (.aload_n 0, 1) := dk_get daX16_readKey 106 (r := (209, .aload_n 0, 1)) rfl
theorem dX16_readKey_210 : decode cX16_readKey 210 = .ok (.getfield 101, 3) := dk_get daX16_readKey 107 (r := (210, .getfield 101, 3)) rfl
theorem dX16_readKey_213 : decode cX16_readKey 213 = .ok (.aload_n 0, 1) := dk_get daX16_readKey 108 (r := (213, .aload_n 0, 1)) rfl
theorem dX16_readKey_214 : decode cX16_readKey 214 = .ok (.getfield 185, 3) := dk_get daX16_readKey 109 (r := (214, .getfield 185, 3)) rfl
theorem dX16_readKey_217 : decode cX16_readKey 217 = .ok (.aload_n 0, 1) := dk_get daX16_readKey 110 (r := (217, .aload_n 0, 1)) rfl
theorem dX16_readKey_218 : decode cX16_readKey 218 = .ok (.getfield 169, 3) := dk_get daX16_readKey 111 (r := (218, .getfield 169, 3)) rfl
theorem dX16_readKey_221 : decode cX16_readKey 221 = .ok (.getfield 105, 3) := dk_get daX16_readKey 112 (r := (221, .getfield 105, 3)) rfl
theorem dX16_readKey_224 : decode cX16_readKey 224 = .ok (.invokevirtual 173, 3) := dk_get daX16_readKey 113 (r := (224, .invokevirtual 173, 3)) rfl
theorem dX16_readKey_227 : decode cX16_readKey 227 = .ok (.aload_n 0, 1) := dk_get daX16_readKey 114 (r := (227, .aload_n 0, 1)) rfl
theorem dX16_readKey_228 : decode cX16_readKey 228 = .ok (.getfield 101, 3) := dk_get daX16_readKey 115 (r := (228, .getfield 101, 3)) rfl
theorem dX16_readKey_231 : decode cX16_readKey 231 = .ok (.aload_n 0, 1) := dk_get daX16_readKey 116 (r := (231, .aload_n 0, 1)) rfl
theorem dX16_readKey_232 : decode cX16_readKey 232 = .ok (.getfield 169, 3) := dk_get daX16_readKey 117 (r := (232, .getfield 169, 3)) rfl
theorem dX16_readKey_235 : decode cX16_readKey 235 = .ok (.getfield 105, 3) := dk_get daX16_readKey 118 (r := (235, .getfield 105, 3)) rfl
theorem dX16_readKey_238 : decode cX16_readKey 238 = .ok (.aload_n 0, 1) := dk_get daX16_readKey 119 (r := (238, .aload_n 0, 1)) rfl
theorem dX16_readKey_239 : decode cX16_readKey 239 = .ok (.getfield 169, 3) := dk_get daX16_readKey 120 (r := (239, .getfield 169, 3)) rfl
theorem dX16_readKey_242 : decode cX16_readKey 242 = .ok (.getfield 105, 3) := dk_get daX16_readKey 121 (r := (242, .getfield 105, 3)) rfl
theorem dX16_readKey_245 : decode cX16_readKey 245 = .ok (.aload_n 0, 1) := dk_get daX16_readKey 122 (r := (245, .aload_n 0, 1)) rfl
theorem dX16_readKey_246 : decode cX16_readKey 246 = .ok (.getfield 118, 3) := dk_get daX16_readKey 123 (r := (246, .getfield 118, 3)) rfl
theorem dX16_readKey_249 : decode cX16_readKey 249 = .ok (.invokevirtual 111, 3) := dk_get daX16_readKey 124 (r := (249, .invokevirtual 111, 3)) rfl
theorem dX16_readKey_252 : decode cX16_readKey 252 = .ok (.aload_n 0, 1) := dk_get daX16_readKey 125 (r := (252, .aload_n 0, 1)) rfl
theorem dX16_readKey_253 : decode cX16_readKey 253 = .ok (.getfield 108, 3) := dk_get daX16_readKey 126 (r := (253, .getfield 108, 3)) rfl
theorem dX16_readKey_256 : decode cX16_readKey 256 = .ok (.aload_n 0, 1) := dk_get daX16_readKey 127 (r := (256, .aload_n 0, 1)) rfl
theorem dX16_readKey_257 : decode cX16_readKey 257 = .ok (.getfield 118, 3) := dk_get daX16_readKey 128 (r := (257, .getfield 118, 3)) rfl
theorem dX16_readKey_260 : decode cX16_readKey 260 = .ok (.invokestatic 188, 3) := dk_get daX16_readKey 129 (r := (260, .invokestatic 188, 3)) rfl
theorem dX16_readKey_263 : decode cX16_readKey 263 = .ok (.ireturn, 1) := dk_get daX16_readKey 130 (r := (263, .ireturn, 1)) rfl
theorem dX16_readKey_264 : decode cX16_readKey 264 = .ok (.aload_n 0, 1) := dk_get daX16_readKey 131 (r := (264, .aload_n 0, 1)) rfl
theorem dX16_readKey_265 : decode cX16_readKey 265 = .ok (.getfield 108, 3) := dk_get daX16_readKey 132 (r := (265, .getfield 108, 3)) rfl
theorem dX16_readKey_268 : decode cX16_readKey 268 = .ok (.aload_n 0, 1) := dk_get daX16_readKey 133 (r := (268, .aload_n 0, 1)) rfl
theorem dX16_readKey_269 : decode cX16_readKey 269 = .ok (.getfield 124, 3) := dk_get daX16_readKey 134 (r := (269, .getfield 124, 3)) rfl
theorem dX16_readKey_272 : decode cX16_readKey 272 = .ok (.invokestatic 182, 3) := dk_get daX16_readKey 135 (r := (272, .invokestatic 182, 3)) rfl
theorem dX16_readKey_275 : decode cX16_readKey 275 = .ok (.aload_n 0, 1) := dk_get daX16_readKey 136 (r := (275, .aload_n 0, 1)) rfl
theorem dX16_readKey_276 : decode cX16_readKey 276 = .ok (.getfield 101, 3) := dk_get daX16_readKey 137 (r := (276, .getfield 101, 3)) rfl
theorem dX16_readKey_279 : decode cX16_readKey 279 = .ok (.aload_n 0, 1) := dk_get daX16_readKey 138 (r := (279, .aload_n 0, 1)) rfl
theorem dX16_readKey_280 : decode cX16_readKey 280 = .ok (.getfield 108, 3) := dk_get daX16_readKey 139 (r := (280, .getfield 108, 3)) rfl
theorem dX16_readKey_283 : decode cX16_readKey 283 = .ok (.iconst 1, 1) := dk_get daX16_readKey 140 (r := (283, .iconst 1, 1)) rfl
theorem dX16_readKey_284 : decode cX16_readKey 284 = .ok (.iconst 2, 1) := dk_get daX16_readKey 141 (r := (284, .iconst 2, 1)) rfl
theorem dX16_readKey_285 : decode cX16_readKey 285 = .ok (.aload_n 0, 1) := dk_get daX16_readKey 142 (r := (285, .aload_n 0, 1)) rfl
theorem dX16_readKey_286 : decode cX16_readKey 286 = .ok (.getfield 169, 3) := dk_get daX16_readKey 143 (r := (286, .getfield 169, 3)) rfl
theorem dX16_readKey_289 : decode cX16_readKey 289 = .ok (.getfield 105, 3) := dk_get daX16_readKey 144 (r := (289, .getfield 105, 3)) rfl
theorem dX16_readKey_292 : decode cX16_readKey 292 = .ok (.invokevirtual 147, 3) := dk_get daX16_readKey 145 (r := (292, .invokevirtual 147, 3)) rfl
theorem dX16_readKey_295 : decode cX16_readKey 295 = .ok (.aload_n 0, 1) := dk_get daX16_readKey 146 (r := (295, .aload_n 0, 1)) rfl
theorem dX16_readKey_296 : decode cX16_readKey 296 = .ok (.getfield 101, 3) := dk_get daX16_readKey 147 (r := (296, .getfield 101, 3)) rfl
theorem dX16_readKey_299 : decode cX16_readKey 299 = .ok (.aload_n 0, 1) := dk_get daX16_readKey 148 (r := (299, .aload_n 0, 1)) rfl
theorem dX16_readKey_300 : decode cX16_readKey 300 = .ok (.getfield 169, 3) := dk_get daX16_readKey 149 (r := (300, .getfield 169, 3)) rfl
theorem dX16_readKey_303 : decode cX16_readKey 303 = .ok (.getfield 105, 3) := dk_get daX16_readKey 150 (r := (303, .getfield 105, 3)) rfl
theorem dX16_readKey_306 : decode cX16_readKey 306 = .ok (.aload_n 0, 1) := dk_get daX16_readKey 151 (r := (306, .aload_n 0, 1)) rfl
theorem dX16_readKey_307 : decode cX16_readKey 307 = .ok (.getfield 169, 3) := dk_get daX16_readKey 152 (r := (307, .getfield 169, 3)) rfl
theorem dX16_readKey_310 : decode cX16_readKey 310 = .ok (.getfield 105, 3) := dk_get daX16_readKey 153 (r := (310, .getfield 105, 3)) rfl
theorem dX16_readKey_313 : decode cX16_readKey 313 = .ok (.aload_n 0, 1) := dk_get daX16_readKey 154 (r := (313, .aload_n 0, 1)) rfl
theorem dX16_readKey_314 : decode cX16_readKey 314 = .ok (.getfield 118, 3) := dk_get daX16_readKey 155 (r := (314, .getfield 118, 3)) rfl
theorem dX16_readKey_317 : decode cX16_readKey 317 = .ok (.invokevirtual 111, 3) := dk_get daX16_readKey 156 (r := (317, .invokevirtual 111, 3)) rfl
theorem dX16_readKey_320 : decode cX16_readKey 320 = .ok (.aload_n 0, 1) := dk_get daX16_readKey 157 (r := (320, .aload_n 0, 1)) rfl
theorem dX16_readKey_321 : decode cX16_readKey 321 = .ok (.getfield 118, 3) := dk_get daX16_readKey 158 (r := (321, .getfield 118, 3)) rfl
theorem dX16_readKey_324 : decode cX16_readKey 324 = .ok (.aload_n 0, 1) := dk_get daX16_readKey 159 (r := (324, .aload_n 0, 1)) rfl
theorem dX16_readKey_325 : decode cX16_readKey 325 = .ok (.getfield 124, 3) := dk_get daX16_readKey 160 (r := (325, .getfield 124, 3)) rfl
theorem dX16_readKey_328 : decode cX16_readKey 328 = .ok (.invokestatic 188, 3) := dk_get daX16_readKey 161 (r := (328, .invokestatic 188, 3)) rfl
theorem dX16_readKey_331 : decode cX16_readKey 331 = .ok (.ifCond .ne 5, 3) := dk_get daX16_readKey 162 (r := (331, .ifCond .ne 5, 3)) rfl
theorem dX16_readKey_334 : decode cX16_readKey 334 = .ok (.iconst 0, 1) := dk_get daX16_readKey 163 (r := (334, .iconst 0, 1)) rfl
theorem dX16_readKey_335 : decode cX16_readKey 335 = .ok (.ireturn, 1) := dk_get daX16_readKey 164 (r := (335, .ireturn, 1)) rfl
theorem dX16_readKey_336 : decode cX16_readKey 336 = .ok (.aload_n 0, 1) := dk_get daX16_readKey 165 (r := (336, .aload_n 0, 1)) rfl
theorem dX16_readKey_337 : decode cX16_readKey 337 = .ok (.getfield 101, 3) := dk_get daX16_readKey 166 (r := (337, .getfield 101, 3)) rfl
theorem dX16_readKey_340 : decode cX16_readKey 340 = .ok (.aload_n 0, 1) := dk_get daX16_readKey 167 (r := (340, .aload_n 0, 1)) rfl
theorem dX16_readKey_341 : decode cX16_readKey 341 = .ok (.getfield 169, 3) := dk_get daX16_readKey 168 (r := (341, .getfield 169, 3)) rfl
theorem dX16_readKey_344 : decode cX16_readKey 344 = .ok (.getfield 105, 3) := dk_get daX16_readKey 169 (r := (344, .getfield 105, 3)) rfl
theorem dX16_readKey_347 : decode cX16_readKey 347 = .ok (.aload_n 0, 1) := dk_get daX16_readKey 170 (r := (347, .aload_n 0, 1)) rfl
theorem dX16_readKey_348 : decode cX16_readKey 348 = .ok (.getfield 185, 3) := dk_get daX16_readKey 171 (r := (348, .getfield 185, 3)) rfl
theorem dX16_readKey_351 : decode cX16_readKey 351 = .ok (.invokevirtual 151, 3) := dk_get daX16_readKey 172 (r := (351, .invokevirtual 151, 3)) rfl
theorem dX16_readKey_354 : decode cX16_readKey 354 = .ok (.aload_n 0, 1) := dk_get daX16_readKey 173 (r := (354, .aload_n 0, 1)) rfl
theorem dX16_readKey_355 : decode cX16_readKey 355 = .ok (.getfield 185, 3) := dk_get daX16_readKey 174 (r := (355, .getfield 185, 3)) rfl
theorem dX16_readKey_358 : decode cX16_readKey 358 = .ok (.iconst 0, 1) := dk_get daX16_readKey 175 (r := (358, .iconst 0, 1)) rfl
theorem dX16_readKey_359 : decode cX16_readKey 359 = .ok (.iaload, 1) := dk_get daX16_readKey 176 (r := (359, .iaload, 1)) rfl
theorem dX16_readKey_360 : decode cX16_readKey 360 = .ok (.iconst 1, 1) := dk_get daX16_readKey 177 (r := (360, .iconst 1, 1)) rfl
theorem dX16_readKey_361 : decode cX16_readKey 361 = .ok (.iand, 1) := dk_get daX16_readKey 178 (r := (361, .iand, 1)) rfl
theorem dX16_readKey_362 : decode cX16_readKey 362 = .ok (.aload_n 1, 1) := dk_get daX16_readKey 179 (r := (362, .aload_n 1, 1)) rfl
theorem dX16_readKey_363 : decode cX16_readKey 363 = .ok (.iconst 0, 1) := dk_get daX16_readKey 180 (r := (363, .iconst 0, 1)) rfl
theorem dX16_readKey_364 : decode cX16_readKey 364 = .ok (.baload, 1) := dk_get daX16_readKey 181 (r := (364, .baload, 1)) rfl
theorem dX16_readKey_365 : decode cX16_readKey 365 = .ok (.iconst 2, 1) := dk_get daX16_readKey 182 (r := (365, .iconst 2, 1)) rfl
theorem dX16_readKey_366 : decode cX16_readKey 366 = .ok (.isub, 1) := dk_get daX16_readKey 183 (r := (366, .isub, 1)) rfl
theorem dX16_readKey_367 : decode cX16_readKey 367 = .ok (.if_icmp .eq 52, 3) := dk_get daX16_readKey 184 (r := (367, .if_icmp .eq 52, 3)) rfl
theorem dX16_readKey_370 : decode cX16_readKey 370 = .ok (.iconst 0, 1) := dk_get daX16_readKey 185 (r := (370, .iconst 0, 1)) rfl
theorem dX16_readKey_371 : decode cX16_readKey 371 = .ok (.istore 4, 2) := dk_get daX16_readKey 186 (r := (371, .istore 4, 2)) rfl
theorem dX16_readKey_373 : decode cX16_readKey 373 = .ok (.iload 4, 2) := dk_get daX16_readKey 187 (r := (373, .iload 4, 2)) rfl
theorem dX16_readKey_375 : decode cX16_readKey 375 = .ok (.bipush 8, 2) := dk_get daX16_readKey 188 (r := (375, .bipush 8, 2)) rfl
theorem dX16_readKey_377 : decode cX16_readKey 377 = .ok (.if_icmp .ge 17, 3) := dk_get daX16_readKey 189 (r := (377, .if_icmp .ge 17, 3)) rfl
theorem dX16_readKey_380 : decode cX16_readKey 380 = .ok (.aload_n 0, 1) := dk_get daX16_readKey 190 (r := (380, .aload_n 0, 1)) rfl
theorem dX16_readKey_381 : decode cX16_readKey 381 = .ok (.getfield 127, 3) := dk_get daX16_readKey 191 (r := (381, .getfield 127, 3)) rfl
theorem dX16_readKey_384 : decode cX16_readKey 384 = .ok (.iload 4, 2) := dk_get daX16_readKey 192 (r := (384, .iload 4, 2)) rfl
theorem dX16_readKey_386 : decode cX16_readKey 386 = .ok (.iconst 0, 1) := dk_get daX16_readKey 193 (r := (386, .iconst 0, 1)) rfl
theorem dX16_readKey_387 : decode cX16_readKey 387 = .ok (.iastore, 1) := dk_get daX16_readKey 194 (r := (387, .iastore, 1)) rfl
theorem dX16_readKey_388 : decode cX16_readKey 388 = .ok (.iinc 4 1, 3) := dk_get daX16_readKey 195 (r := (388, .iinc 4 1, 3)) rfl
theorem dX16_readKey_391 : decode cX16_readKey 391 = .ok (.goto (-18), 3) := dk_get daX16_readKey 196 (r := (391, .goto (-18), 3)) rfl
theorem dX16_readKey_394 : decode cX16_readKey 394 = .ok (.aload_n 0, 1) := dk_get daX16_readKey 197 (r := (394, .aload_n 0, 1)) rfl
theorem dX16_readKey_395 : decode cX16_readKey 395 = .ok (.getfield 101, 3) := dk_get daX16_readKey 198 (r := (395, .getfield 101, 3)) rfl
theorem dX16_readKey_398 : decode cX16_readKey 398 = .ok (.aload_n 0, 1) := dk_get daX16_readKey 199 (r := (398, .aload_n 0, 1)) rfl
theorem dX16_readKey_399 : decode cX16_readKey 399 = .ok (.getfield 127, 3) := dk_get daX16_readKey 200 (r := (399, .getfield 127, 3)) rfl
theorem dX16_readKey_402 : decode cX16_readKey 402 = .ok (.aload_n 0, 1) := dk_get daX16_readKey 201 (r := (402, .aload_n 0, 1)) rfl
theorem dX16_readKey_403 : decode cX16_readKey 403 = .ok (.getfield 169, 3) := dk_get daX16_readKey 202 (r := (403, .getfield 169, 3)) rfl
theorem dX16_readKey_406 : decode cX16_readKey 406 = .ok (.getfield 105, 3) := dk_get daX16_readKey 203 (r := (406, .getfield 105, 3)) rfl
theorem dX16_readKey_409 : decode cX16_readKey 409 = .ok (.aload_n 0, 1) := dk_get daX16_readKey 204 (r := (409, .aload_n 0, 1)) rfl
theorem dX16_readKey_410 : decode cX16_readKey 410 = .ok (.getfield 169, 3) := dk_get daX16_readKey 205 (r := (410, .getfield 169, 3)) rfl
theorem dX16_readKey_413 : decode cX16_readKey 413 = .ok (.getfield 105, 3) := dk_get daX16_readKey 206 (r := (413, .getfield 105, 3)) rfl
theorem dX16_readKey_416 : decode cX16_readKey 416 = .ok (.invokevirtual 133, 3) := dk_get daX16_readKey 207 (r := (416, .invokevirtual 133, 3)) rfl
theorem dX16_readKey_419 : decode cX16_readKey 419 = .ok (.iconst 1, 1) := dk_get daX16_readKey 208 (r := (419, .iconst 1, 1)) rfl
theorem dX16_readKey_420 : decode cX16_readKey 420 = .ok (.ireturn, 1) := dk_get daX16_readKey 209 (r := (420, .ireturn, 1)) rfl
abbrev mX16_part : ks_M := (RX16, cX16_part, 7, (some .boolean), "part")
def drX16_part : List (Nat × Instr × Nat) := [(0, .iload_n 2, 1), (1, .istore 5, 2), (3, .iload 5, 2), (5, .iload_n 2, 1), (6, .iload_n 3, 1), (7, .iadd, 1), (8, .if_icmp .ge 16, 3), (11, .aload_n 1, 1), (12, .iload 5, 2), (14, .baload, 1), (15, .ifCond .ne 9, 3), (18, .iinc 5 1, 3), (21, .goto (-18), 3), (24, .iload_n 2, 1), (25, .iload_n 3, 1), (26, .iadd, 1), (27, .iload 5, 2), (29, .isub, 1), (30, .bipush 32, 2), (32, .if_icmp .le 5, 3), (35, .iconst 0, 1), (36, .ireturn, 1), (37, .iconst 0, 1), (38, .istore 6, 2), (40, .iload 6, 2), (42, .bipush 8, 2), (44, .if_icmp .ge 15, 3), (47, .aload 4, 2), (49, .iload 6, 2), (51, .iconst 0, 1), (52, .iastore, 1), (53, .iinc 6 1, 3), (56, .goto (-16), 3), (59, .iconst 0, 1), (60, .istore 6, 2), (62, .iload 6, 2), (64, .iload_n 2, 1), (65, .iload_n 3, 1), (66, .iadd, 1), (67, .iload 5, 2), (69, .isub, 1), (70, .if_icmp .ge 41, 3), (73, .aload 4, 2), (75, .iload 6, 2), (77, .iconst 4, 1), (78, .idiv, 1), (79, .dup2, 1), (80, .iaload, 1), (81, .aload_n 1, 1), (82, .iload_n 2, 1), (83, .iload_n 3, 1), (84, .iadd, 1), (85, .iconst 1, 1), (86, .isub, 1), (87, .iload 6, 2), (89, .isub, 1), (90, .baload, 1), (91, .sipush 255, 3), (94, .iand, 1), (95, .bipush 8, 2), (97, .iload 6, 2), (99, .iconst 4, 1), (100, .irem, 1), (101, .imul, 1), (102, .ishl, 1), (103, .ior, 1), (104, .iastore, 1), (105, .iinc 6 1, 3), (108, .goto (-46), 3), (111, .aload 4, 2), (113, .invokestatic 95, 3), (116, .ifCond .ne 22, 3), (119, .aload 4, 2), (121, .aload_n 0, 1), (122, .getfield 192, 3), (125, .getfield 162, 3), (128, .invokestatic 165, 3), (131, .ifCond .ge 7, 3), (134, .iconst 1, 1), (135, .goto 4, 3), (138, .iconst 0, 1), (139, .ireturn, 1)]
set_option maxRecDepth 100000 in
theorem daX16_part : dk_all cX16_part drX16_part = true := by decide +kernel
theorem dX16_part_0 : decode cX16_part 0 = .ok (.iload_n 2, 1) := dk_get daX16_part 0 (r := (0, .iload_n 2, 1)) rfl
theorem dX16_part_1 : decode cX16_part 1 = .ok (.istore 5, 2) := dk_get daX16_part 1 (r := (1, .istore 5, 2)) rfl
theorem dX16_part_3 : decode cX16_part 3 = .ok (.iload 5, 2) := dk_get daX16_part 2 (r := (3, .iload 5, 2)) rfl
theorem dX16_part_5 : decode cX16_part 5 = .ok (.iload_n 2, 1) := dk_get daX16_part 3 (r := (5, .iload_n 2, 1)) rfl
theorem dX16_part_6 : decode cX16_part 6 = .ok (.iload_n 3, 1) := dk_get daX16_part 4 (r := (6, .iload_n 3, 1)) rfl
theorem dX16_part_7 : decode cX16_part 7 = .ok (.iadd, 1) := dk_get daX16_part 5 (r := (7, .iadd, 1)) rfl
theorem dX16_part_8 : decode cX16_part 8 = .ok (.if_icmp .ge 16, 3) := dk_get daX16_part 6 (r := (8, .if_icmp .ge 16, 3)) rfl
theorem dX16_part_11 : decode cX16_part 11 = .ok (.aload_n 1, 1) := dk_get daX16_part 7 (r := (11, .aload_n 1, 1)) rfl
theorem dX16_part_12 : decode cX16_part 12 = .ok (.iload 5, 2) := dk_get daX16_part 8 (r := (12, .iload 5, 2)) rfl
theorem dX16_part_14 : decode cX16_part 14 = .ok (.baload, 1) := dk_get daX16_part 9 (r := (14, .baload, 1)) rfl
theorem dX16_part_15 : decode cX16_part 15 = .ok (.ifCond .ne 9, 3) := dk_get daX16_part 10 (r := (15, .ifCond .ne 9, 3)) rfl
theorem dX16_part_18 : decode cX16_part 18 = .ok (.iinc 5 1, 3) := dk_get daX16_part 11 (r := (18, .iinc 5 1, 3)) rfl
theorem dX16_part_21 : decode cX16_part 21 = .ok (.goto (-18), 3) := dk_get daX16_part 12 (r := (21, .goto (-18), 3)) rfl
theorem dX16_part_24 : decode cX16_part 24 = .ok (.iload_n 2, 1) := dk_get daX16_part 13 (r := (24, .iload_n 2, 1)) rfl
theorem dX16_part_25 : decode cX16_part 25 = .ok (.iload_n 3, 1) := dk_get daX16_part 14 (r := (25, .iload_n 3, 1)) rfl
theorem dX16_part_26 : decode cX16_part 26 = .ok (.iadd, 1) := dk_get daX16_part 15 (r := (26, .iadd, 1)) rfl
theorem dX16_part_27 : decode cX16_part 27 = .ok (.iload 5, 2) := dk_get daX16_part 16 (r := (27, .iload 5, 2)) rfl
theorem dX16_part_29 : decode cX16_part 29 = .ok (.isub, 1) := dk_get daX16_part 17 (r := (29, .isub, 1)) rfl
theorem dX16_part_30 : decode cX16_part 30 = .ok (.bipush 32, 2) := dk_get daX16_part 18 (r := (30, .bipush 32, 2)) rfl
theorem dX16_part_32 : decode cX16_part 32 = .ok (.if_icmp .le 5, 3) := dk_get daX16_part 19 (r := (32, .if_icmp .le 5, 3)) rfl
theorem dX16_part_35 : decode cX16_part 35 = .ok (.iconst 0, 1) := dk_get daX16_part 20 (r := (35, .iconst 0, 1)) rfl
theorem dX16_part_36 : decode cX16_part 36 = .ok (.ireturn, 1) := dk_get daX16_part 21 (r := (36, .ireturn, 1)) rfl
theorem dX16_part_37 : decode cX16_part 37 = .ok (.iconst 0, 1) := dk_get daX16_part 22 (r := (37, .iconst 0, 1)) rfl
theorem dX16_part_38 : decode cX16_part 38 = .ok (.istore 6, 2) := dk_get daX16_part 23 (r := (38, .istore 6, 2)) rfl
theorem dX16_part_40 : decode cX16_part 40 = .ok (.iload 6, 2) := dk_get daX16_part 24 (r := (40, .iload 6, 2)) rfl
theorem dX16_part_42 : decode cX16_part 42 = .ok (.bipush 8, 2) := dk_get daX16_part 25 (r := (42, .bipush 8, 2)) rfl
theorem dX16_part_44 : decode cX16_part 44 = .ok (.if_icmp .ge 15, 3) := dk_get daX16_part 26 (r := (44, .if_icmp .ge 15, 3)) rfl
theorem dX16_part_47 : decode cX16_part 47 = .ok (.aload 4, 2) := dk_get daX16_part 27 (r := (47, .aload 4, 2)) rfl
theorem dX16_part_49 : decode cX16_part 49 = .ok (.iload 6, 2) := dk_get daX16_part 28 (r := (49, .iload 6, 2)) rfl
theorem dX16_part_51 : decode cX16_part 51 = .ok (.iconst 0, 1) := dk_get daX16_part 29 (r := (51, .iconst 0, 1)) rfl
theorem dX16_part_52 : decode cX16_part 52 = .ok (.iastore, 1) := dk_get daX16_part 30 (r := (52, .iastore, 1)) rfl
theorem dX16_part_53 : decode cX16_part 53 = .ok (.iinc 6 1, 3) := dk_get daX16_part 31 (r := (53, .iinc 6 1, 3)) rfl
theorem dX16_part_56 : decode cX16_part 56 = .ok (.goto (-16), 3) := dk_get daX16_part 32 (r := (56, .goto (-16), 3)) rfl
theorem dX16_part_59 : decode cX16_part 59 = .ok (.iconst 0, 1) := dk_get daX16_part 33 (r := (59, .iconst 0, 1)) rfl
theorem dX16_part_60 : decode cX16_part 60 = .ok (.istore 6, 2) := dk_get daX16_part 34 (r := (60, .istore 6, 2)) rfl
theorem dX16_part_62 : decode cX16_part 62 = .ok (.iload 6, 2) := dk_get daX16_part 35 (r := (62, .iload 6, 2)) rfl
theorem dX16_part_64 : decode cX16_part 64 = .ok (.iload_n 2, 1) := dk_get daX16_part 36 (r := (64, .iload_n 2, 1)) rfl
theorem dX16_part_65 : decode cX16_part 65 = .ok (.iload_n 3, 1) := dk_get daX16_part 37 (r := (65, .iload_n 3, 1)) rfl
theorem dX16_part_66 : decode cX16_part 66 = .ok (.iadd, 1) := dk_get daX16_part 38 (r := (66, .iadd, 1)) rfl
theorem dX16_part_67 : decode cX16_part 67 = .ok (.iload 5, 2) := dk_get daX16_part 39 (r := (67, .iload 5, 2)) rfl
theorem dX16_part_69 : decode cX16_part 69 = .ok (.isub, 1) := dk_get daX16_part 40 (r := (69, .isub, 1)) rfl
theorem dX16_part_70 : decode cX16_part 70 = .ok (.if_icmp .ge 41, 3) := dk_get daX16_part 41 (r := (70, .if_icmp .ge 41, 3)) rfl
theorem dX16_part_73 : decode cX16_part 73 = .ok (.aload 4, 2) := dk_get daX16_part 42 (r := (73, .aload 4, 2)) rfl
theorem dX16_part_75 : decode cX16_part 75 = .ok (.iload 6, 2) := dk_get daX16_part 43 (r := (75, .iload 6, 2)) rfl
theorem dX16_part_77 : decode cX16_part 77 = .ok (.iconst 4, 1) := dk_get daX16_part 44 (r := (77, .iconst 4, 1)) rfl
theorem dX16_part_78 : decode cX16_part 78 = .ok (.idiv, 1) := dk_get daX16_part 45 (r := (78, .idiv, 1)) rfl
theorem dX16_part_79 : decode cX16_part 79 = .ok (.dup2, 1) := dk_get daX16_part 46 (r := (79, .dup2, 1)) rfl
theorem dX16_part_80 : decode cX16_part 80 = .ok (.iaload, 1) := dk_get daX16_part 47 (r := (80, .iaload, 1)) rfl
theorem dX16_part_81 : decode cX16_part 81 = .ok (.aload_n 1, 1) := dk_get daX16_part 48 (r := (81, .aload_n 1, 1)) rfl
theorem dX16_part_82 : decode cX16_part 82 = .ok (.iload_n 2, 1) := dk_get daX16_part 49 (r := (82, .iload_n 2, 1)) rfl
theorem dX16_part_83 : decode cX16_part 83 = .ok (.iload_n 3, 1) := dk_get daX16_part 50 (r := (83, .iload_n 3, 1)) rfl
theorem dX16_part_84 : decode cX16_part 84 = .ok (.iadd, 1) := dk_get daX16_part 51 (r := (84, .iadd, 1)) rfl
theorem dX16_part_85 : decode cX16_part 85 = .ok (.iconst 1, 1) := dk_get daX16_part 52 (r := (85, .iconst 1, 1)) rfl
theorem dX16_part_86 : decode cX16_part 86 = .ok (.isub, 1) := dk_get daX16_part 53 (r := (86, .isub, 1)) rfl
theorem dX16_part_87 : decode cX16_part 87 = .ok (.iload 6, 2) := dk_get daX16_part 54 (r := (87, .iload 6, 2)) rfl
theorem dX16_part_89 : decode cX16_part 89 = .ok (.isub, 1) := dk_get daX16_part 55 (r := (89, .isub, 1)) rfl
theorem dX16_part_90 : decode cX16_part 90 = .ok (.baload, 1) := dk_get daX16_part 56 (r := (90, .baload, 1)) rfl
theorem dX16_part_91 : decode cX16_part 91 = .ok (.sipush 255, 3) := dk_get daX16_part 57 (r := (91, .sipush 255, 3)) rfl
theorem dX16_part_94 : decode cX16_part 94 = .ok (.iand, 1) := dk_get daX16_part 58 (r := (94, .iand, 1)) rfl
theorem dX16_part_95 : decode cX16_part 95 = .ok (.bipush 8, 2) := dk_get daX16_part 59 (r := (95, .bipush 8, 2)) rfl
theorem dX16_part_97 : decode cX16_part 97 = .ok (.iload 6, 2) := dk_get daX16_part 60 (r := (97, .iload 6, 2)) rfl
theorem dX16_part_99 : decode cX16_part 99 = .ok (.iconst 4, 1) := dk_get daX16_part 61 (r := (99, .iconst 4, 1)) rfl
theorem dX16_part_100 : decode cX16_part 100 = .ok (.irem, 1) := dk_get daX16_part 62 (r := (100, .irem, 1)) rfl
theorem dX16_part_101 : decode cX16_part 101 = .ok (.imul, 1) := dk_get daX16_part 63 (r := (101, .imul, 1)) rfl
theorem dX16_part_102 : decode cX16_part 102 = .ok (.ishl, 1) := dk_get daX16_part 64 (r := (102, .ishl, 1)) rfl
theorem dX16_part_103 : decode cX16_part 103 = .ok (.ior, 1) := dk_get daX16_part 65 (r := (103, .ior, 1)) rfl
theorem dX16_part_104 : decode cX16_part 104 = .ok (.iastore, 1) := dk_get daX16_part 66 (r := (104, .iastore, 1)) rfl
theorem dX16_part_105 : decode cX16_part 105 = .ok (.iinc 6 1, 3) := dk_get daX16_part 67 (r := (105, .iinc 6 1, 3)) rfl
theorem dX16_part_108 : decode cX16_part 108 = .ok (.goto (-46), 3) := dk_get daX16_part 68 (r := (108, .goto (-46), 3)) rfl
theorem dX16_part_111 : decode cX16_part 111 = .ok (.aload 4, 2) := dk_get daX16_part 69 (r := (111, .aload 4, 2)) rfl
theorem dX16_part_113 : decode cX16_part 113 = .ok (.invokestatic 95, 3) := dk_get daX16_part 70 (r := (113, .invokestatic 95, 3)) rfl
theorem dX16_part_116 : decode cX16_part 116 = .ok (.ifCond .ne 22, 3) := dk_get daX16_part 71 (r := (116, .ifCond .ne 22, 3)) rfl
theorem dX16_part_119 : decode cX16_part 119 = .ok (.aload 4, 2) := dk_get daX16_part 72 (r := (119, .aload 4, 2)) rfl
theorem dX16_part_121 : decode cX16_part 121 = .ok (.aload_n 0, 1) := dk_get daX16_part 73 (r := (121, .aload_n 0, 1)) rfl
theorem dX16_part_122 : decode cX16_part 122 = .ok (.getfield 192, 3) := dk_get daX16_part 74 (r := (122, .getfield 192, 3)) rfl
theorem dX16_part_125 : decode cX16_part 125 = .ok (.getfield 162, 3) := dk_get daX16_part 75 (r := (125, .getfield 162, 3)) rfl
theorem dX16_part_128 : decode cX16_part 128 = .ok (.invokestatic 165, 3) := dk_get daX16_part 76 (r := (128, .invokestatic 165, 3)) rfl
theorem dX16_part_131 : decode cX16_part 131 = .ok (.ifCond .ge 7, 3) := dk_get daX16_part 77 (r := (131, .ifCond .ge 7, 3)) rfl
theorem dX16_part_134 : decode cX16_part 134 = .ok (.iconst 1, 1) := dk_get daX16_part 78 (r := (134, .iconst 1, 1)) rfl
theorem dX16_part_135 : decode cX16_part 135 = .ok (.goto 4, 3) := dk_get daX16_part 79 (r := (135, .goto 4, 3)) rfl
theorem dX16_part_138 : decode cX16_part 138 = .ok (.iconst 0, 1) := dk_get daX16_part 80 (r := (138, .iconst 0, 1)) rfl
theorem dX16_part_139 : decode cX16_part 139 = .ok (.ireturn, 1) := dk_get daX16_part 81 (r := (139, .ireturn, 1)) rfl
abbrev mX16_isDer : ks_M := (RX16, cX16_isDer, 5, (some .boolean), "isDer")
def drX16_isDer : List (Nat × Instr × Nat) := [(0, .iload_n 2, 1), (1, .bipush 9, 2), (3, .if_icmp .lt 37, 3), (6, .iload_n 2, 1), (7, .bipush 73, 2), (9, .if_icmp .gt 31, 3), (12, .aload_n 1, 1), (13, .iconst 0, 1), (14, .baload, 1), (15, .bipush 48, 2), (17, .if_icmp .ne 23, 3), (20, .aload_n 1, 1), (21, .iconst 1, 1), (22, .baload, 1), (23, .sipush 255, 3), (26, .iand, 1), (27, .iload_n 2, 1), (28, .iconst 3, 1), (29, .isub, 1), (30, .if_icmp .ne 10, 3), (33, .aload_n 1, 1), (34, .iconst 2, 1), (35, .baload, 1), (36, .iconst 2, 1), (37, .if_icmp .eq 5, 3), (40, .iconst 0, 1), (41, .ireturn, 1), (42, .aload_n 1, 1), (43, .iconst 3, 1), (44, .baload, 1), (45, .sipush 255, 3), (48, .iand, 1), (49, .istore_n 3, 1), (50, .iload_n 3, 1), (51, .ifCond .eq 20, 3), (54, .bipush 6, 2), (56, .iload_n 3, 1), (57, .iadd, 1), (58, .iload_n 2, 1), (59, .if_icmp .ge 12, 3), (62, .aload_n 1, 1), (63, .iconst 4, 1), (64, .iload_n 3, 1), (65, .iadd, 1), (66, .baload, 1), (67, .iconst 2, 1), (68, .if_icmp .eq 5, 3), (71, .iconst 0, 1), (72, .ireturn, 1), (73, .aload_n 1, 1), (74, .iconst 5, 1), (75, .iload_n 3, 1), (76, .iadd, 1), (77, .baload, 1), (78, .sipush 255, 3), (81, .iand, 1), (82, .istore 4, 2), (84, .iload 4, 2), (86, .ifCond .eq 14, 3), (89, .iload_n 3, 1), (90, .iload 4, 2), (92, .iadd, 1), (93, .bipush 7, 2), (95, .iadd, 1), (96, .iload_n 2, 1), (97, .if_icmp .eq 5, 3), (100, .iconst 0, 1), (101, .ireturn, 1), (102, .aload_n 1, 1), (103, .iconst 4, 1), (104, .iload_n 3, 1), (105, .invokestatic 195, 3), (108, .ifCond .eq 20, 3), (111, .aload_n 1, 1), (112, .bipush 6, 2), (114, .iload_n 3, 1), (115, .iadd, 1), (116, .iload 4, 2), (118, .invokestatic 195, 3), (121, .ifCond .eq 7, 3), (124, .iconst 1, 1), (125, .goto 4, 3), (128, .iconst 0, 1), (129, .ireturn, 1)]
set_option maxRecDepth 100000 in
theorem daX16_isDer : dk_all cX16_isDer drX16_isDer = true := by decide +kernel
theorem dX16_isDer_0 : decode cX16_isDer 0 = .ok (.iload_n 2, 1) := dk_get daX16_isDer 0 (r := (0, .iload_n 2, 1)) rfl
theorem dX16_isDer_1 : decode cX16_isDer 1 = .ok (.bipush 9, 2) := dk_get daX16_isDer 1 (r := (1, .bipush 9, 2)) rfl
theorem dX16_isDer_3 : decode cX16_isDer 3 = .ok (.if_icmp .lt 37, 3) := dk_get daX16_isDer 2 (r := (3, .if_icmp .lt 37, 3)) rfl
theorem dX16_isDer_6 : decode cX16_isDer 6 = .ok (.iload_n 2, 1) := dk_get daX16_isDer 3 (r := (6, .iload_n 2, 1)) rfl
theorem dX16_isDer_7 : decode cX16_isDer 7 = .ok (.bipush 73, 2) := dk_get daX16_isDer 4 (r := (7, .bipush 73, 2)) rfl
theorem dX16_isDer_9 : decode cX16_isDer 9 = .ok (.if_icmp .gt 31, 3) := dk_get daX16_isDer 5 (r := (9, .if_icmp .gt 31, 3)) rfl
theorem dX16_isDer_12 : decode cX16_isDer 12 = .ok (.aload_n 1, 1) := dk_get daX16_isDer 6 (r := (12, .aload_n 1, 1)) rfl
theorem dX16_isDer_13 : decode cX16_isDer 13 = .ok (.iconst 0, 1) := dk_get daX16_isDer 7 (r := (13, .iconst 0, 1)) rfl
theorem dX16_isDer_14 : decode cX16_isDer 14 = .ok (.baload, 1) := dk_get daX16_isDer 8 (r := (14, .baload, 1)) rfl
theorem dX16_isDer_15 : decode cX16_isDer 15 = .ok (.bipush 48, 2) := dk_get daX16_isDer 9 (r := (15, .bipush 48, 2)) rfl
theorem dX16_isDer_17 : decode cX16_isDer 17 = .ok (.if_icmp .ne 23, 3) := dk_get daX16_isDer 10 (r := (17, .if_icmp .ne 23, 3)) rfl
theorem dX16_isDer_20 : decode cX16_isDer 20 = .ok (.aload_n 1, 1) := dk_get daX16_isDer 11 (r := (20, .aload_n 1, 1)) rfl
theorem dX16_isDer_21 : decode cX16_isDer 21 = .ok (.iconst 1, 1) := dk_get daX16_isDer 12 (r := (21, .iconst 1, 1)) rfl
theorem dX16_isDer_22 : decode cX16_isDer 22 = .ok (.baload, 1) := dk_get daX16_isDer 13 (r := (22, .baload, 1)) rfl
theorem dX16_isDer_23 : decode cX16_isDer 23 = .ok (.sipush 255, 3) := dk_get daX16_isDer 14 (r := (23, .sipush 255, 3)) rfl
theorem dX16_isDer_26 : decode cX16_isDer 26 = .ok (.iand, 1) := dk_get daX16_isDer 15 (r := (26, .iand, 1)) rfl
theorem dX16_isDer_27 : decode cX16_isDer 27 = .ok (.iload_n 2, 1) := dk_get daX16_isDer 16 (r := (27, .iload_n 2, 1)) rfl
theorem dX16_isDer_28 : decode cX16_isDer 28 = .ok (.iconst 3, 1) := dk_get daX16_isDer 17 (r := (28, .iconst 3, 1)) rfl
theorem dX16_isDer_29 : decode cX16_isDer 29 = .ok (.isub, 1) := dk_get daX16_isDer 18 (r := (29, .isub, 1)) rfl
theorem dX16_isDer_30 : decode cX16_isDer 30 = .ok (.if_icmp .ne 10, 3) := dk_get daX16_isDer 19 (r := (30, .if_icmp .ne 10, 3)) rfl
theorem dX16_isDer_33 : decode cX16_isDer 33 = .ok (.aload_n 1, 1) := dk_get daX16_isDer 20 (r := (33, .aload_n 1, 1)) rfl
theorem dX16_isDer_34 : decode cX16_isDer 34 = .ok (.iconst 2, 1) := dk_get daX16_isDer 21 (r := (34, .iconst 2, 1)) rfl
theorem dX16_isDer_35 : decode cX16_isDer 35 = .ok (.baload, 1) := dk_get daX16_isDer 22 (r := (35, .baload, 1)) rfl
theorem dX16_isDer_36 : decode cX16_isDer 36 = .ok (.iconst 2, 1) := dk_get daX16_isDer 23 (r := (36, .iconst 2, 1)) rfl
theorem dX16_isDer_37 : decode cX16_isDer 37 = .ok (.if_icmp .eq 5, 3) := dk_get daX16_isDer 24 (r := (37, .if_icmp .eq 5, 3)) rfl
theorem dX16_isDer_40 : decode cX16_isDer 40 = .ok (.iconst 0, 1) := dk_get daX16_isDer 25 (r := (40, .iconst 0, 1)) rfl
theorem dX16_isDer_41 : decode cX16_isDer 41 = .ok (.ireturn, 1) := dk_get daX16_isDer 26 (r := (41, .ireturn, 1)) rfl
theorem dX16_isDer_42 : decode cX16_isDer 42 = .ok (.aload_n 1, 1) := dk_get daX16_isDer 27 (r := (42, .aload_n 1, 1)) rfl
theorem dX16_isDer_43 : decode cX16_isDer 43 = .ok (.iconst 3, 1) := dk_get daX16_isDer 28 (r := (43, .iconst 3, 1)) rfl
theorem dX16_isDer_44 : decode cX16_isDer 44 = .ok (.baload, 1) := dk_get daX16_isDer 29 (r := (44, .baload, 1)) rfl
theorem dX16_isDer_45 : decode cX16_isDer 45 = .ok (.sipush 255, 3) := dk_get daX16_isDer 30 (r := (45, .sipush 255, 3)) rfl
theorem dX16_isDer_48 : decode cX16_isDer 48 = .ok (.iand, 1) := dk_get daX16_isDer 31 (r := (48, .iand, 1)) rfl
theorem dX16_isDer_49 : decode cX16_isDer 49 = .ok (.istore_n 3, 1) := dk_get daX16_isDer 32 (r := (49, .istore_n 3, 1)) rfl
theorem dX16_isDer_50 : decode cX16_isDer 50 = .ok (.iload_n 3, 1) := dk_get daX16_isDer 33 (r := (50, .iload_n 3, 1)) rfl
theorem dX16_isDer_51 : decode cX16_isDer 51 = .ok (.ifCond .eq 20, 3) := dk_get daX16_isDer 34 (r := (51, .ifCond .eq 20, 3)) rfl
theorem dX16_isDer_54 : decode cX16_isDer 54 = .ok (.bipush 6, 2) := dk_get daX16_isDer 35 (r := (54, .bipush 6, 2)) rfl
theorem dX16_isDer_56 : decode cX16_isDer 56 = .ok (.iload_n 3, 1) := dk_get daX16_isDer 36 (r := (56, .iload_n 3, 1)) rfl
theorem dX16_isDer_57 : decode cX16_isDer 57 = .ok (.iadd, 1) := dk_get daX16_isDer 37 (r := (57, .iadd, 1)) rfl
theorem dX16_isDer_58 : decode cX16_isDer 58 = .ok (.iload_n 2, 1) := dk_get daX16_isDer 38 (r := (58, .iload_n 2, 1)) rfl
theorem dX16_isDer_59 : decode cX16_isDer 59 = .ok (.if_icmp .ge 12, 3) := dk_get daX16_isDer 39 (r := (59, .if_icmp .ge 12, 3)) rfl
theorem dX16_isDer_62 : decode cX16_isDer 62 = .ok (.aload_n 1, 1) := dk_get daX16_isDer 40 (r := (62, .aload_n 1, 1)) rfl
theorem dX16_isDer_63 : decode cX16_isDer 63 = .ok (.iconst 4, 1) := dk_get daX16_isDer 41 (r := (63, .iconst 4, 1)) rfl
theorem dX16_isDer_64 : decode cX16_isDer 64 = .ok (.iload_n 3, 1) := dk_get daX16_isDer 42 (r := (64, .iload_n 3, 1)) rfl
theorem dX16_isDer_65 : decode cX16_isDer 65 = .ok (.iadd, 1) := dk_get daX16_isDer 43 (r := (65, .iadd, 1)) rfl
theorem dX16_isDer_66 : decode cX16_isDer 66 = .ok (.baload, 1) := dk_get daX16_isDer 44 (r := (66, .baload, 1)) rfl
theorem dX16_isDer_67 : decode cX16_isDer 67 = .ok (.iconst 2, 1) := dk_get daX16_isDer 45 (r := (67, .iconst 2, 1)) rfl
theorem dX16_isDer_68 : decode cX16_isDer 68 = .ok (.if_icmp .eq 5, 3) := dk_get daX16_isDer 46 (r := (68, .if_icmp .eq 5, 3)) rfl
theorem dX16_isDer_71 : decode cX16_isDer 71 = .ok (.iconst 0, 1) := dk_get daX16_isDer 47 (r := (71, .iconst 0, 1)) rfl
theorem dX16_isDer_72 : decode cX16_isDer 72 = .ok (.ireturn, 1) := dk_get daX16_isDer 48 (r := (72, .ireturn, 1)) rfl
theorem dX16_isDer_73 : decode cX16_isDer 73 = .ok (.aload_n 1, 1) := dk_get daX16_isDer 49 (r := (73, .aload_n 1, 1)) rfl
theorem dX16_isDer_74 : decode cX16_isDer 74 = .ok (.iconst 5, 1) := dk_get daX16_isDer 50 (r := (74, .iconst 5, 1)) rfl
theorem dX16_isDer_75 : decode cX16_isDer 75 = .ok (.iload_n 3, 1) := dk_get daX16_isDer 51 (r := (75, .iload_n 3, 1)) rfl
theorem dX16_isDer_76 : decode cX16_isDer 76 = .ok (.iadd, 1) := dk_get daX16_isDer 52 (r := (76, .iadd, 1)) rfl
theorem dX16_isDer_77 : decode cX16_isDer 77 = .ok (.baload, 1) := dk_get daX16_isDer 53 (r := (77, .baload, 1)) rfl
theorem dX16_isDer_78 : decode cX16_isDer 78 = .ok (.sipush 255, 3) := dk_get daX16_isDer 54 (r := (78, .sipush 255, 3)) rfl
theorem dX16_isDer_81 : decode cX16_isDer 81 = .ok (.iand, 1) := dk_get daX16_isDer 55 (r := (81, .iand, 1)) rfl
theorem dX16_isDer_82 : decode cX16_isDer 82 = .ok (.istore 4, 2) := dk_get daX16_isDer 56 (r := (82, .istore 4, 2)) rfl
theorem dX16_isDer_84 : decode cX16_isDer 84 = .ok (.iload 4, 2) := dk_get daX16_isDer 57 (r := (84, .iload 4, 2)) rfl
theorem dX16_isDer_86 : decode cX16_isDer 86 = .ok (.ifCond .eq 14, 3) := dk_get daX16_isDer 58 (r := (86, .ifCond .eq 14, 3)) rfl
theorem dX16_isDer_89 : decode cX16_isDer 89 = .ok (.iload_n 3, 1) := dk_get daX16_isDer 59 (r := (89, .iload_n 3, 1)) rfl
theorem dX16_isDer_90 : decode cX16_isDer 90 = .ok (.iload 4, 2) := dk_get daX16_isDer 60 (r := (90, .iload 4, 2)) rfl
theorem dX16_isDer_92 : decode cX16_isDer 92 = .ok (.iadd, 1) := dk_get daX16_isDer 61 (r := (92, .iadd, 1)) rfl
theorem dX16_isDer_93 : decode cX16_isDer 93 = .ok (.bipush 7, 2) := dk_get daX16_isDer 62 (r := (93, .bipush 7, 2)) rfl
theorem dX16_isDer_95 : decode cX16_isDer 95 = .ok (.iadd, 1) := dk_get daX16_isDer 63 (r := (95, .iadd, 1)) rfl
theorem dX16_isDer_96 : decode cX16_isDer 96 = .ok (.iload_n 2, 1) := dk_get daX16_isDer 64 (r := (96, .iload_n 2, 1)) rfl
theorem dX16_isDer_97 : decode cX16_isDer 97 = .ok (.if_icmp .eq 5, 3) := dk_get daX16_isDer 65 (r := (97, .if_icmp .eq 5, 3)) rfl
theorem dX16_isDer_100 : decode cX16_isDer 100 = .ok (.iconst 0, 1) := dk_get daX16_isDer 66 (r := (100, .iconst 0, 1)) rfl
theorem dX16_isDer_101 : decode cX16_isDer 101 = .ok (.ireturn, 1) := dk_get daX16_isDer 67 (r := (101, .ireturn, 1)) rfl
theorem dX16_isDer_102 : decode cX16_isDer 102 = .ok (.aload_n 1, 1) := dk_get daX16_isDer 68 (r := (102, .aload_n 1, 1)) rfl
theorem dX16_isDer_103 : decode cX16_isDer 103 = .ok (.iconst 4, 1) := dk_get daX16_isDer 69 (r := (103, .iconst 4, 1)) rfl
theorem dX16_isDer_104 : decode cX16_isDer 104 = .ok (.iload_n 3, 1) := dk_get daX16_isDer 70 (r := (104, .iload_n 3, 1)) rfl
theorem dX16_isDer_105 : decode cX16_isDer 105 = .ok (.invokestatic 195, 3) := dk_get daX16_isDer 71 (r := (105, .invokestatic 195, 3)) rfl
theorem dX16_isDer_108 : decode cX16_isDer 108 = .ok (.ifCond .eq 20, 3) := dk_get daX16_isDer 72 (r := (108, .ifCond .eq 20, 3)) rfl
theorem dX16_isDer_111 : decode cX16_isDer 111 = .ok (.aload_n 1, 1) := dk_get daX16_isDer 73 (r := (111, .aload_n 1, 1)) rfl
theorem dX16_isDer_112 : decode cX16_isDer 112 = .ok (.bipush 6, 2) := dk_get daX16_isDer 74 (r := (112, .bipush 6, 2)) rfl
theorem dX16_isDer_114 : decode cX16_isDer 114 = .ok (.iload_n 3, 1) := dk_get daX16_isDer 75 (r := (114, .iload_n 3, 1)) rfl
theorem dX16_isDer_115 : decode cX16_isDer 115 = .ok (.iadd, 1) := dk_get daX16_isDer 76 (r := (115, .iadd, 1)) rfl
theorem dX16_isDer_116 : decode cX16_isDer 116 = .ok (.iload 4, 2) := dk_get daX16_isDer 77 (r := (116, .iload 4, 2)) rfl
theorem dX16_isDer_118 : decode cX16_isDer 118 = .ok (.invokestatic 195, 3) := dk_get daX16_isDer 78 (r := (118, .invokestatic 195, 3)) rfl
theorem dX16_isDer_121 : decode cX16_isDer 121 = .ok (.ifCond .eq 7, 3) := dk_get daX16_isDer 79 (r := (121, .ifCond .eq 7, 3)) rfl
theorem dX16_isDer_124 : decode cX16_isDer 124 = .ok (.iconst 1, 1) := dk_get daX16_isDer 80 (r := (124, .iconst 1, 1)) rfl
theorem dX16_isDer_125 : decode cX16_isDer 125 = .ok (.goto 4, 3) := dk_get daX16_isDer 81 (r := (125, .goto 4, 3)) rfl
theorem dX16_isDer_128 : decode cX16_isDer 128 = .ok (.iconst 0, 1) := dk_get daX16_isDer 82 (r := (128, .iconst 0, 1)) rfl
theorem dX16_isDer_129 : decode cX16_isDer 129 = .ok (.ireturn, 1) := dk_get daX16_isDer 83 (r := (129, .ireturn, 1)) rfl
abbrev mX16_shortest : ks_M := (RX16, cX16_shortest, 3, (some .boolean), "shortest")
def drX16_shortest : List (Nat × Instr × Nat) := [(0, .aload_n 0, 1), (1, .iload_n 1, 1), (2, .baload, 1), (3, .ifCond .lt 26, 3), (6, .iload_n 2, 1), (7, .iconst 1, 1), (8, .if_icmp .eq 17, 3), (11, .aload_n 0, 1), (12, .iload_n 1, 1), (13, .baload, 1), (14, .ifCond .ne 11, 3), (17, .aload_n 0, 1), (18, .iload_n 1, 1), (19, .iconst 1, 1), (20, .iadd, 1), (21, .baload, 1), (22, .ifCond .ge 7, 3), (25, .iconst 1, 1), (26, .goto 4, 3), (29, .iconst 0, 1), (30, .ireturn, 1)]
set_option maxRecDepth 100000 in
theorem daX16_shortest : dk_all cX16_shortest drX16_shortest = true := by decide +kernel
theorem dX16_shortest_0 : decode cX16_shortest 0 = .ok (.aload_n 0, 1) := dk_get daX16_shortest 0 (r := (0, .aload_n 0, 1)) rfl
theorem dX16_shortest_1 : decode cX16_shortest 1 = .ok (.iload_n 1, 1) := dk_get daX16_shortest 1 (r := (1, .iload_n 1, 1)) rfl
theorem dX16_shortest_2 : decode cX16_shortest 2 = .ok (.baload, 1) := dk_get daX16_shortest 2 (r := (2, .baload, 1)) rfl
theorem dX16_shortest_3 : decode cX16_shortest 3 = .ok (.ifCond .lt 26, 3) := dk_get daX16_shortest 3 (r := (3, .ifCond .lt 26, 3)) rfl
theorem dX16_shortest_6 : decode cX16_shortest 6 = .ok (.iload_n 2, 1) := dk_get daX16_shortest 4 (r := (6, .iload_n 2, 1)) rfl
theorem dX16_shortest_7 : decode cX16_shortest 7 = .ok (.iconst 1, 1) := dk_get daX16_shortest 5 (r := (7, .iconst 1, 1)) rfl
theorem dX16_shortest_8 : decode cX16_shortest 8 = .ok (.if_icmp .eq 17, 3) := dk_get daX16_shortest 6 (r := (8, .if_icmp .eq 17, 3)) rfl
theorem dX16_shortest_11 : decode cX16_shortest 11 = .ok (.aload_n 0, 1) := dk_get daX16_shortest 7 (r := (11, .aload_n 0, 1)) rfl
theorem dX16_shortest_12 : decode cX16_shortest 12 = .ok (.iload_n 1, 1) := dk_get daX16_shortest 8 (r := (12, .iload_n 1, 1)) rfl
theorem dX16_shortest_13 : decode cX16_shortest 13 = .ok (.baload, 1) := dk_get daX16_shortest 9 (r := (13, .baload, 1)) rfl
theorem dX16_shortest_14 : decode cX16_shortest 14 = .ok (.ifCond .ne 11, 3) := dk_get daX16_shortest 10 (r := (14, .ifCond .ne 11, 3)) rfl
theorem dX16_shortest_17 : decode cX16_shortest 17 = .ok (.aload_n 0, 1) := dk_get daX16_shortest 11 (r := (17, .aload_n 0, 1)) rfl
theorem dX16_shortest_18 : decode cX16_shortest 18 = .ok (.iload_n 1, 1) := dk_get daX16_shortest 12 (r := (18, .iload_n 1, 1)) rfl
theorem dX16_shortest_19 : decode cX16_shortest 19 = .ok (.iconst 1, 1) := dk_get daX16_shortest 13 (r := (19, .iconst 1, 1)) rfl
theorem dX16_shortest_20 : decode cX16_shortest 20 = .ok (.iadd, 1) := dk_get daX16_shortest 14 (r := (20, .iadd, 1)) rfl
theorem dX16_shortest_21 : decode cX16_shortest 21 = .ok (.baload, 1) := dk_get daX16_shortest 15 (r := (21, .baload, 1)) rfl
theorem dX16_shortest_22 : decode cX16_shortest 22 = .ok (.ifCond .ge 7, 3) := dk_get daX16_shortest 16 (r := (22, .ifCond .ge 7, 3)) rfl
theorem dX16_shortest_25 : decode cX16_shortest 25 = .ok (.iconst 1, 1) := dk_get daX16_shortest 17 (r := (25, .iconst 1, 1)) rfl
theorem dX16_shortest_26 : decode cX16_shortest 26 = .ok (.goto 4, 3) := dk_get daX16_shortest 18 (r := (26, .goto 4, 3)) rfl
theorem dX16_shortest_29 : decode cX16_shortest 29 = .ok (.iconst 0, 1) := dk_get daX16_shortest 19 (r := (29, .iconst 0, 1)) rfl
theorem dX16_shortest_30 : decode cX16_shortest 30 = .ok (.ireturn, 1) := dk_get daX16_shortest 20 (r := (30, .ireturn, 1)) rfl
abbrev mX16_isRight : ks_M := (RX16, cX16_isRight, 6, (some .boolean), "isRight")
def drX16_isRight : List (Nat × Instr × Nat) := [(0, .aload_n 1, 1), (1, .iconst 3, 1), (2, .baload, 1), (3, .sipush 255, 3), (6, .iand, 1), (7, .istore 4, 2), (9, .aload_n 1, 1), (10, .iconst 5, 1), (11, .iload 4, 2), (13, .iadd, 1), (14, .baload, 1), (15, .sipush 255, 3), (18, .iand, 1), (19, .istore 5, 2), (21, .aload_n 0, 1), (22, .aload_n 2, 1), (23, .iload_n 3, 1), (24, .invokevirtual 199, 3), (27, .ifCond .eq 37, 3), (30, .aload_n 0, 1), (31, .aload_n 1, 1), (32, .iconst 4, 1), (33, .iload 4, 2), (35, .aload_n 0, 1), (36, .getfield 203, 3), (39, .invokevirtual 206, 3), (42, .ifCond .eq 22, 3), (45, .aload_n 0, 1), (46, .aload_n 1, 1), (47, .bipush 6, 2), (49, .iload 4, 2), (51, .iadd, 1), (52, .iload 5, 2), (54, .aload_n 0, 1), (55, .getfield 210, 3), (58, .invokevirtual 206, 3), (61, .ifCond .ne 5, 3), (64, .iconst 0, 1), (65, .ireturn, 1), (66, .aload_n 0, 1), (67, .getfield 213, 3), (70, .iconst 0, 1), (71, .iconst 1, 1), (72, .aload_n 0, 1), (73, .getfield 216, 3), (76, .invokestatic 158, 3), (79, .aload_n 0, 1), (80, .getfield 192, 3), (83, .aload_n 0, 1), (84, .getfield 210, 3), (87, .aload_n 0, 1), (88, .getfield 210, 3), (91, .invokevirtual 173, 3), (94, .aload_n 0, 1), (95, .getfield 192, 3), (98, .aload_n 0, 1), (99, .getfield 210, 3), (102, .bipush (-2), 2), (104, .iconst 0, 1), (105, .aload_n 0, 1), (106, .getfield 210, 3), (109, .invokevirtual 147, 3), (112, .aload_n 0, 1), (113, .getfield 192, 3), (116, .aload_n 0, 1), (117, .getfield 216, 3), (120, .aload_n 0, 1), (121, .getfield 219, 3), (124, .invokevirtual 173, 3), (127, .aload_n 0, 1), (128, .getfield 192, 3), (131, .aload_n 0, 1), (132, .getfield 219, 3), (135, .aload_n 0, 1), (136, .getfield 210, 3), (139, .aload_n 0, 1), (140, .getfield 219, 3), (143, .invokevirtual 111, 3), (146, .aload_n 0, 1), (147, .getfield 192, 3), (150, .aload_n 0, 1), (151, .getfield 219, 3), (154, .aload_n 0, 1), (155, .getfield 219, 3), (158, .invokevirtual 151, 3), (161, .aload_n 0, 1), (162, .getfield 192, 3), (165, .aload_n 0, 1), (166, .getfield 203, 3), (169, .aload_n 0, 1), (170, .getfield 222, 3), (173, .invokevirtual 173, 3), (176, .aload_n 0, 1), (177, .getfield 192, 3), (180, .aload_n 0, 1), (181, .getfield 222, 3), (184, .aload_n 0, 1), (185, .getfield 210, 3), (188, .aload_n 0, 1), (189, .getfield 222, 3), (192, .invokevirtual 111, 3), (195, .aload_n 0, 1), (196, .getfield 192, 3), (199, .aload_n 0, 1), (200, .getfield 222, 3), (203, .aload_n 0, 1), (204, .getfield 222, 3), (207, .invokevirtual 151, 3), (210, .aload_n 0, 1), (211, .aload_n 0, 1), (212, .getfield 219, 3), (215, .aload_n 0, 1), (216, .getfield 225, 3), (219, .aload_n 0, 1), (220, .getfield 228, 3), (223, .invokevirtual 231, 3), (226, .aload_n 0, 1), (227, .aload_n 0, 1), (228, .getfield 222, 3), (231, .aload_n 0, 1), (232, .getfield 169, 3), (235, .aload_n 0, 1), (236, .getfield 234, 3), (239, .invokevirtual 231, 3), (242, .aload_n 0, 1), (243, .aload_n 0, 1), (244, .getfield 228, 3), (247, .aload_n 0, 1), (248, .getfield 234, 3), (251, .invokevirtual 143, 3), (254, .aload_n 0, 1), (255, .getfield 228, 3), (258, .getfield 90, 3), (261, .invokestatic 95, 3), (264, .ifCond .eq 5, 3), (267, .iconst 0, 1), (268, .ireturn, 1), (269, .aload_n 0, 1), (270, .aload_n 0, 1), (271, .getfield 228, 3), (274, .aload_n 0, 1), (275, .getfield 155, 3), (278, .aload_n 0, 1), (279, .getfield 185, 3), (282, .invokevirtual 237, 3), (285, .aload_n 0, 1), (286, .getfield 155, 3), (289, .aload_n 0, 1), (290, .getfield 192, 3), (293, .getfield 162, 3), (296, .invokestatic 165, 3), (299, .ifCond .lt 22, 3), (302, .aload_n 0, 1), (303, .getfield 155, 3), (306, .aload_n 0, 1), (307, .getfield 192, 3), (310, .getfield 162, 3), (313, .aload_n 0, 1), (314, .getfield 155, 3), (317, .invokestatic 241, 3), (320, .pop2, 1), (321, .aload_n 0, 1), (322, .getfield 155, 3), (325, .aload_n 0, 1), (326, .getfield 203, 3), (329, .invokestatic 188, 3), (332, .ireturn, 1)]
set_option maxRecDepth 100000 in
theorem daX16_isRight : dk_all cX16_isRight drX16_isRight = true := by decide +kernel
theorem dX16_isRight_0 : decode cX16_isRight 0 = .ok (.aload_n 1, 1) := dk_get daX16_isRight 0 (r := (0, .aload_n 1, 1)) rfl
theorem dX16_isRight_1 : decode cX16_isRight 1 = .ok (.iconst 3, 1) := dk_get daX16_isRight 1 (r := (1, .iconst 3, 1)) rfl
theorem dX16_isRight_2 : decode cX16_isRight 2 = .ok (.baload, 1) := dk_get daX16_isRight 2 (r := (2, .baload, 1)) rfl
theorem dX16_isRight_3 : decode cX16_isRight 3 = .ok (.sipush 255, 3) := dk_get daX16_isRight 3 (r := (3, .sipush 255, 3)) rfl
theorem dX16_isRight_6 : decode cX16_isRight 6 = .ok (.iand, 1) := dk_get daX16_isRight 4 (r := (6, .iand, 1)) rfl
theorem dX16_isRight_7 : decode cX16_isRight 7 = .ok (.istore 4, 2) := dk_get daX16_isRight 5 (r := (7, .istore 4, 2)) rfl
theorem dX16_isRight_9 : decode cX16_isRight 9 = .ok (.aload_n 1, 1) := dk_get daX16_isRight 6 (r := (9, .aload_n 1, 1)) rfl
theorem dX16_isRight_10 : decode cX16_isRight 10 = .ok (.iconst 5, 1) := dk_get daX16_isRight 7 (r := (10, .iconst 5, 1)) rfl
theorem dX16_isRight_11 : decode cX16_isRight 11 = .ok (.iload 4, 2) := dk_get daX16_isRight 8 (r := (11, .iload 4, 2)) rfl
theorem dX16_isRight_13 : decode cX16_isRight 13 = .ok (.iadd, 1) := dk_get daX16_isRight 9 (r := (13, .iadd, 1)) rfl
theorem dX16_isRight_14 : decode cX16_isRight 14 = .ok (.baload, 1) := dk_get daX16_isRight 10 (r := (14, .baload, 1)) rfl
theorem dX16_isRight_15 : decode cX16_isRight 15 = .ok (.sipush 255, 3) := dk_get daX16_isRight 11 (r := (15, .sipush 255, 3)) rfl
theorem dX16_isRight_18 : decode cX16_isRight 18 = .ok (.iand, 1) := dk_get daX16_isRight 12 (r := (18, .iand, 1)) rfl
theorem dX16_isRight_19 : decode cX16_isRight 19 = .ok (.istore 5, 2) := dk_get daX16_isRight 13 (r := (19, .istore 5, 2)) rfl
theorem dX16_isRight_21 : decode cX16_isRight 21 = .ok (.aload_n 0, 1) := dk_get daX16_isRight 14 (r := (21, .aload_n 0, 1)) rfl
theorem dX16_isRight_22 : decode cX16_isRight 22 = .ok (.aload_n 2, 1) := dk_get daX16_isRight 15 (r := (22, .aload_n 2, 1)) rfl
theorem dX16_isRight_23 : decode cX16_isRight 23 = .ok (.iload_n 3, 1) := dk_get daX16_isRight 16 (r := (23, .iload_n 3, 1)) rfl
theorem dX16_isRight_24 : decode cX16_isRight 24 = .ok (.invokevirtual 199, 3) := dk_get daX16_isRight 17 (r := (24, .invokevirtual 199, 3)) rfl
theorem dX16_isRight_27 : decode cX16_isRight 27 = .ok (.ifCond .eq 37, 3) := dk_get daX16_isRight 18 (r := (27, .ifCond .eq 37, 3)) rfl
theorem dX16_isRight_30 : decode cX16_isRight 30 = .ok (.aload_n 0, 1) := dk_get daX16_isRight 19 (r := (30, .aload_n 0, 1)) rfl
theorem dX16_isRight_31 : decode cX16_isRight 31 = .ok (.aload_n 1, 1) := dk_get daX16_isRight 20 (r := (31, .aload_n 1, 1)) rfl
theorem dX16_isRight_32 : decode cX16_isRight 32 = .ok (.iconst 4, 1) := dk_get daX16_isRight 21 (r := (32, .iconst 4, 1)) rfl
theorem dX16_isRight_33 : decode cX16_isRight 33 = .ok (.iload 4, 2) := dk_get daX16_isRight 22 (r := (33, .iload 4, 2)) rfl
theorem dX16_isRight_35 : decode cX16_isRight 35 = .ok (.aload_n 0, 1) := dk_get daX16_isRight 23 (r := (35, .aload_n 0, 1)) rfl
theorem dX16_isRight_36 : decode cX16_isRight 36 = .ok (.getfield 203, 3) := dk_get daX16_isRight 24 (r := (36, .getfield 203, 3)) rfl
theorem dX16_isRight_39 : decode cX16_isRight 39 = .ok (.invokevirtual 206, 3) := dk_get daX16_isRight 25 (r := (39, .invokevirtual 206, 3)) rfl
theorem dX16_isRight_42 : decode cX16_isRight 42 = .ok (.ifCond .eq 22, 3) := dk_get daX16_isRight 26 (r := (42, .ifCond .eq 22, 3)) rfl
theorem dX16_isRight_45 : decode cX16_isRight 45 = .ok (.aload_n 0, 1) := dk_get daX16_isRight 27 (r := (45, .aload_n 0, 1)) rfl
theorem dX16_isRight_46 : decode cX16_isRight 46 = .ok (.aload_n 1, 1) := dk_get daX16_isRight 28 (r := (46, .aload_n 1, 1)) rfl
theorem dX16_isRight_47 : decode cX16_isRight 47 = .ok (.bipush 6, 2) := dk_get daX16_isRight 29 (r := (47, .bipush 6, 2)) rfl
theorem dX16_isRight_49 : decode cX16_isRight 49 = .ok (.iload 4, 2) := dk_get daX16_isRight 30 (r := (49, .iload 4, 2)) rfl
theorem dX16_isRight_51 : decode cX16_isRight 51 = .ok (.iadd, 1) := dk_get daX16_isRight 31 (r := (51, .iadd, 1)) rfl
theorem dX16_isRight_52 : decode cX16_isRight 52 = .ok (.iload 5, 2) := dk_get daX16_isRight 32 (r := (52, .iload 5, 2)) rfl
theorem dX16_isRight_54 : decode cX16_isRight 54 = .ok (.aload_n 0, 1) := dk_get daX16_isRight 33 (r := (54, .aload_n 0, 1)) rfl
theorem dX16_isRight_55 : decode cX16_isRight 55 = .ok (.getfield 210, 3) := dk_get daX16_isRight 34 (r := (55, .getfield 210, 3)) rfl
theorem dX16_isRight_58 : decode cX16_isRight 58 = .ok (.invokevirtual 206, 3) := dk_get daX16_isRight 35 (r := (58, .invokevirtual 206, 3)) rfl
theorem dX16_isRight_61 : decode cX16_isRight 61 = .ok (.ifCond .ne 5, 3) := dk_get daX16_isRight 36 (r := (61, .ifCond .ne 5, 3)) rfl
theorem dX16_isRight_64 : decode cX16_isRight 64 = .ok (.iconst 0, 1) := dk_get daX16_isRight 37 (r := (64, .iconst 0, 1)) rfl
theorem dX16_isRight_65 : decode cX16_isRight 65 = .ok (.ireturn, 1) := dk_get daX16_isRight 38 (r := (65, .ireturn, 1)) rfl
theorem dX16_isRight_66 : decode cX16_isRight 66 = .ok (.aload_n 0, 1) := dk_get daX16_isRight 39 (r := (66, .aload_n 0, 1)) rfl
theorem dX16_isRight_67 : decode cX16_isRight 67 = .ok (.getfield 213, 3) := dk_get daX16_isRight 40 (r := (67, .getfield 213, 3)) rfl
theorem dX16_isRight_70 : decode cX16_isRight 70 = .ok (.iconst 0, 1) := dk_get daX16_isRight 41 (r := (70, .iconst 0, 1)) rfl
theorem dX16_isRight_71 : decode cX16_isRight 71 = .ok (.iconst 1, 1) := dk_get daX16_isRight 42 (r := (71, .iconst 1, 1)) rfl
theorem dX16_isRight_72 : decode cX16_isRight 72 = .ok (.aload_n 0, 1) := dk_get daX16_isRight 43 (r := (72, .aload_n 0, 1)) rfl
theorem dX16_isRight_73 : decode cX16_isRight 73 = .ok (.getfield 216, 3) := dk_get daX16_isRight 44 (r := (73, .getfield 216, 3)) rfl
theorem dX16_isRight_76 : decode cX16_isRight 76 = .ok (.invokestatic 158, 3) := dk_get daX16_isRight 45 (r := (76, .invokestatic 158, 3)) rfl
theorem dX16_isRight_79 : decode cX16_isRight 79 = .ok (.aload_n 0, 1) := dk_get daX16_isRight 46 (r := (79, .aload_n 0, 1)) rfl
theorem dX16_isRight_80 : decode cX16_isRight 80 = .ok (.getfield 192, 3) := dk_get daX16_isRight 47 (r := (80, .getfield 192, 3)) rfl
theorem dX16_isRight_83 : decode cX16_isRight 83 = .ok (.aload_n 0, 1) := dk_get daX16_isRight 48 (r := (83, .aload_n 0, 1)) rfl
theorem dX16_isRight_84 : decode cX16_isRight 84 = .ok (.getfield 210, 3) := dk_get daX16_isRight 49 (r := (84, .getfield 210, 3)) rfl
theorem dX16_isRight_87 : decode cX16_isRight 87 = .ok (.aload_n 0, 1) := dk_get daX16_isRight 50 (r := (87, .aload_n 0, 1)) rfl
theorem dX16_isRight_88 : decode cX16_isRight 88 = .ok (.getfield 210, 3) := dk_get daX16_isRight 51 (r := (88, .getfield 210, 3)) rfl
theorem dX16_isRight_91 : decode cX16_isRight 91 = .ok (.invokevirtual 173, 3) := dk_get daX16_isRight 52 (r := (91, .invokevirtual 173, 3)) rfl
theorem dX16_isRight_94 : decode cX16_isRight 94 = .ok (.aload_n 0, 1) := dk_get daX16_isRight 53 (r := (94, .aload_n 0, 1)) rfl
theorem dX16_isRight_95 : decode cX16_isRight 95 = .ok (.getfield 192, 3) := dk_get daX16_isRight 54 (r := (95, .getfield 192, 3)) rfl
theorem dX16_isRight_98 : decode cX16_isRight 98 = .ok (.aload_n 0, 1) := dk_get daX16_isRight 55 (r := (98, .aload_n 0, 1)) rfl
theorem dX16_isRight_99 : decode cX16_isRight 99 = .ok (.getfield 210, 3) := dk_get daX16_isRight 56 (r := (99, .getfield 210, 3)) rfl
theorem dX16_isRight_102 : decode cX16_isRight 102 = .ok (.bipush (-2), 2) := dk_get daX16_isRight 57 (r := (102, .bipush (-2), 2)) rfl
theorem dX16_isRight_104 : decode cX16_isRight 104 = .ok (.iconst 0, 1) := dk_get daX16_isRight 58 (r := (104, .iconst 0, 1)) rfl
theorem dX16_isRight_105 : decode cX16_isRight 105 = .ok (.aload_n 0, 1) := dk_get daX16_isRight 59 (r := (105, .aload_n 0, 1)) rfl
theorem dX16_isRight_106 : decode cX16_isRight 106 = .ok (.getfield 210, 3) := dk_get daX16_isRight 60 (r := (106, .getfield 210, 3)) rfl
theorem dX16_isRight_109 : decode cX16_isRight 109 = .ok (.invokevirtual 147, 3) := dk_get daX16_isRight 61 (r := (109, .invokevirtual 147, 3)) rfl
theorem dX16_isRight_112 : decode cX16_isRight 112 = .ok (.aload_n 0, 1) := dk_get daX16_isRight 62 (r := (112, .aload_n 0, 1)) rfl
theorem dX16_isRight_113 : decode cX16_isRight 113 = .ok (.getfield 192, 3) := dk_get daX16_isRight 63 (r := (113, .getfield 192, 3)) rfl
theorem dX16_isRight_116 : decode cX16_isRight 116 = .ok (.aload_n 0, 1) := dk_get daX16_isRight 64 (r := (116, .aload_n 0, 1)) rfl
theorem dX16_isRight_117 : decode cX16_isRight 117 = .ok (.getfield 216, 3) := dk_get daX16_isRight 65 (r := (117, .getfield 216, 3)) rfl
theorem dX16_isRight_120 : decode cX16_isRight 120 = .ok (.aload_n 0, 1) := dk_get daX16_isRight 66 (r := (120, .aload_n 0, 1)) rfl
theorem dX16_isRight_121 : decode cX16_isRight 121 = .ok (.getfield 219, 3) := dk_get daX16_isRight 67 (r := (121, .getfield 219, 3)) rfl
theorem dX16_isRight_124 : decode cX16_isRight 124 = .ok (.invokevirtual 173, 3) := dk_get daX16_isRight 68 (r := (124, .invokevirtual 173, 3)) rfl
theorem dX16_isRight_127 : decode cX16_isRight 127 = .ok (.aload_n 0, 1) := dk_get daX16_isRight 69 (r := (127, .aload_n 0, 1)) rfl
theorem dX16_isRight_128 : decode cX16_isRight 128 = .ok (.getfield 192, 3) := dk_get daX16_isRight 70 (r := (128, .getfield 192, 3)) rfl
theorem dX16_isRight_131 : decode cX16_isRight 131 = .ok (.aload_n 0, 1) := dk_get daX16_isRight 71 (r := (131, .aload_n 0, 1)) rfl
theorem dX16_isRight_132 : decode cX16_isRight 132 = .ok (.getfield 219, 3) := dk_get daX16_isRight 72 (r := (132, .getfield 219, 3)) rfl
theorem dX16_isRight_135 : decode cX16_isRight 135 = .ok (.aload_n 0, 1) := dk_get daX16_isRight 73 (r := (135, .aload_n 0, 1)) rfl
theorem dX16_isRight_136 : decode cX16_isRight 136 = .ok (.getfield 210, 3) := dk_get daX16_isRight 74 (r := (136, .getfield 210, 3)) rfl
theorem dX16_isRight_139 : decode cX16_isRight 139 = .ok (.aload_n 0, 1) := dk_get daX16_isRight 75 (r := (139, .aload_n 0, 1)) rfl
theorem dX16_isRight_140 : decode cX16_isRight 140 = .ok (.getfield 219, 3) := dk_get daX16_isRight 76 (r := (140, .getfield 219, 3)) rfl
theorem dX16_isRight_143 : decode cX16_isRight 143 = .ok (.invokevirtual 111, 3) := dk_get daX16_isRight 77 (r := (143, .invokevirtual 111, 3)) rfl
theorem dX16_isRight_146 : decode cX16_isRight 146 = .ok (.aload_n 0, 1) := dk_get daX16_isRight 78 (r := (146, .aload_n 0, 1)) rfl
theorem dX16_isRight_147 : decode cX16_isRight 147 = .ok (.getfield 192, 3) := dk_get daX16_isRight 79 (r := (147, .getfield 192, 3)) rfl
theorem dX16_isRight_150 : decode cX16_isRight 150 = .ok (.aload_n 0, 1) := dk_get daX16_isRight 80 (r := (150, .aload_n 0, 1)) rfl
theorem dX16_isRight_151 : decode cX16_isRight 151 = .ok (.getfield 219, 3) := dk_get daX16_isRight 81 (r := (151, .getfield 219, 3)) rfl
theorem dX16_isRight_154 : decode cX16_isRight 154 = .ok (.aload_n 0, 1) := dk_get daX16_isRight 82 (r := (154, .aload_n 0, 1)) rfl
theorem dX16_isRight_155 : decode cX16_isRight 155 = .ok (.getfield 219, 3) := dk_get daX16_isRight 83 (r := (155, .getfield 219, 3)) rfl
theorem dX16_isRight_158 : decode cX16_isRight 158 = .ok (.invokevirtual 151, 3) := dk_get daX16_isRight 84 (r := (158, .invokevirtual 151, 3)) rfl
theorem dX16_isRight_161 : decode cX16_isRight 161 = .ok (.aload_n 0, 1) := dk_get daX16_isRight 85 (r := (161, .aload_n 0, 1)) rfl
theorem dX16_isRight_162 : decode cX16_isRight 162 = .ok (.getfield 192, 3) := dk_get daX16_isRight 86 (r := (162, .getfield 192, 3)) rfl
theorem dX16_isRight_165 : decode cX16_isRight 165 = .ok (.aload_n 0, 1) := dk_get daX16_isRight 87 (r := (165, .aload_n 0, 1)) rfl
theorem dX16_isRight_166 : decode cX16_isRight 166 = .ok (.getfield 203, 3) := dk_get daX16_isRight 88 (r := (166, .getfield 203, 3)) rfl
theorem dX16_isRight_169 : decode cX16_isRight 169 = .ok (.aload_n 0, 1) := dk_get daX16_isRight 89 (r := (169, .aload_n 0, 1)) rfl
theorem dX16_isRight_170 : decode cX16_isRight 170 = .ok (.getfield 222, 3) := dk_get daX16_isRight 90 (r := (170, .getfield 222, 3)) rfl
theorem dX16_isRight_173 : decode cX16_isRight 173 = .ok (.invokevirtual 173, 3) := dk_get daX16_isRight 91 (r := (173, .invokevirtual 173, 3)) rfl
theorem dX16_isRight_176 : decode cX16_isRight 176 = .ok (.aload_n 0, 1) := dk_get daX16_isRight 92 (r := (176, .aload_n 0, 1)) rfl
theorem dX16_isRight_177 : decode cX16_isRight 177 = .ok (.getfield 192, 3) := dk_get daX16_isRight 93 (r := (177, .getfield 192, 3)) rfl
theorem dX16_isRight_180 : decode cX16_isRight 180 = .ok (.aload_n 0, 1) := dk_get daX16_isRight 94 (r := (180, .aload_n 0, 1)) rfl
theorem dX16_isRight_181 : decode cX16_isRight 181 = .ok (.getfield 222, 3) := dk_get daX16_isRight 95 (r := (181, .getfield 222, 3)) rfl
theorem dX16_isRight_184 : decode cX16_isRight 184 = .ok (.aload_n 0, 1) := dk_get daX16_isRight 96 (r := (184, .aload_n 0, 1)) rfl
theorem dX16_isRight_185 : decode cX16_isRight 185 = .ok (.getfield 210, 3) := dk_get daX16_isRight 97 (r := (185, .getfield 210, 3)) rfl
theorem dX16_isRight_188 : decode cX16_isRight 188 = .ok (.aload_n 0, 1) := dk_get daX16_isRight 98 (r := (188, .aload_n 0, 1)) rfl
theorem dX16_isRight_189 : decode cX16_isRight 189 = .ok (.getfield 222, 3) := dk_get daX16_isRight 99 (r := (189, .getfield 222, 3)) rfl
theorem dX16_isRight_192 : decode cX16_isRight 192 = .ok (.invokevirtual 111, 3) := dk_get daX16_isRight 100 (r := (192, .invokevirtual 111, 3)) rfl
theorem dX16_isRight_195 : decode cX16_isRight 195 = .ok (.aload_n 0, 1) := dk_get daX16_isRight 101 (r := (195, .aload_n 0, 1)) rfl
theorem dX16_isRight_196 : decode cX16_isRight 196 = .ok (.getfield 192, 3) := dk_get daX16_isRight 102 (r := (196, .getfield 192, 3)) rfl
theorem dX16_isRight_199 : decode cX16_isRight 199 = .ok (.aload_n 0, 1) := dk_get daX16_isRight 103 (r := (199, .aload_n 0, 1)) rfl
theorem dX16_isRight_200 : decode cX16_isRight 200 = .ok (.getfield 222, 3) := dk_get daX16_isRight 104 (r := (200, .getfield 222, 3)) rfl
theorem dX16_isRight_203 : decode cX16_isRight 203 = .ok (.aload_n 0, 1) := dk_get daX16_isRight 105 (r := (203, .aload_n 0, 1)) rfl
theorem dX16_isRight_204 : decode cX16_isRight 204 = .ok (.getfield 222, 3) := dk_get daX16_isRight 106 (r := (204, .getfield 222, 3)) rfl
theorem dX16_isRight_207 : decode cX16_isRight 207 = .ok (.invokevirtual 151, 3) := dk_get daX16_isRight 107 (r := (207, .invokevirtual 151, 3)) rfl
theorem dX16_isRight_210 : decode cX16_isRight 210 = .ok (.aload_n 0, 1) := dk_get daX16_isRight 108 (r := (210, .aload_n 0, 1)) rfl
theorem dX16_isRight_211 : decode cX16_isRight 211 = .ok (.aload_n 0, 1) := dk_get daX16_isRight 109 (r := (211, .aload_n 0, 1)) rfl
theorem dX16_isRight_212 : decode cX16_isRight 212 = .ok (.getfield 219, 3) := dk_get daX16_isRight 110 (r := (212, .getfield 219, 3)) rfl
theorem dX16_isRight_215 : decode cX16_isRight 215 = .ok (.aload_n 0, 1) := dk_get daX16_isRight 111 (r := (215, .aload_n 0, 1)) rfl
theorem dX16_isRight_216 : decode cX16_isRight 216 = .ok (.getfield 225, 3) := dk_get daX16_isRight 112 (r := (216, .getfield 225, 3)) rfl
theorem dX16_isRight_219 : decode cX16_isRight 219 = .ok (.aload_n 0, 1) := dk_get daX16_isRight 113 (r := (219, .aload_n 0, 1)) rfl
theorem dX16_isRight_220 : decode cX16_isRight 220 = .ok (.getfield 228, 3) := dk_get daX16_isRight 114 (r := (220, .getfield 228, 3)) rfl
theorem dX16_isRight_223 : decode cX16_isRight 223 = .ok (.invokevirtual 231, 3) := dk_get daX16_isRight 115 (r := (223, .invokevirtual 231, 3)) rfl
theorem dX16_isRight_226 : decode cX16_isRight 226 = .ok (.aload_n 0, 1) := dk_get daX16_isRight 116 (r := (226, .aload_n 0, 1)) rfl
theorem dX16_isRight_227 : decode cX16_isRight 227 = .ok (.aload_n 0, 1) := dk_get daX16_isRight 117 (r := (227, .aload_n 0, 1)) rfl
theorem dX16_isRight_228 : decode cX16_isRight 228 = .ok (.getfield 222, 3) := dk_get daX16_isRight 118 (r := (228, .getfield 222, 3)) rfl
theorem dX16_isRight_231 : decode cX16_isRight 231 = .ok (.aload_n 0, 1) := dk_get daX16_isRight 119 (r := (231, .aload_n 0, 1)) rfl
theorem dX16_isRight_232 : decode cX16_isRight 232 = .ok (.getfield 169, 3) := dk_get daX16_isRight 120 (r := (232, .getfield 169, 3)) rfl
theorem dX16_isRight_235 : decode cX16_isRight 235 = .ok (.aload_n 0, 1) := dk_get daX16_isRight 121 (r := (235, .aload_n 0, 1)) rfl
theorem dX16_isRight_236 : decode cX16_isRight 236 = .ok (.getfield 234, 3) := dk_get daX16_isRight 122 (r := (236, .getfield 234, 3)) rfl
theorem dX16_isRight_239 : decode cX16_isRight 239 = .ok (.invokevirtual 231, 3) := dk_get daX16_isRight 123 (r := (239, .invokevirtual 231, 3)) rfl
theorem dX16_isRight_242 : decode cX16_isRight 242 = .ok (.aload_n 0, 1) := dk_get daX16_isRight 124 (r := (242, .aload_n 0, 1)) rfl
theorem dX16_isRight_243 : decode cX16_isRight 243 = .ok (.aload_n 0, 1) := dk_get daX16_isRight 125 (r := (243, .aload_n 0, 1)) rfl
theorem dX16_isRight_244 : decode cX16_isRight 244 = .ok (.getfield 228, 3) := dk_get daX16_isRight 126 (r := (244, .getfield 228, 3)) rfl
theorem dX16_isRight_247 : decode cX16_isRight 247 = .ok (.aload_n 0, 1) := dk_get daX16_isRight 127 (r := (247, .aload_n 0, 1)) rfl
theorem dX16_isRight_248 : decode cX16_isRight 248 = .ok (.getfield 234, 3) := dk_get daX16_isRight 128 (r := (248, .getfield 234, 3)) rfl
theorem dX16_isRight_251 : decode cX16_isRight 251 = .ok (.invokevirtual 143, 3) := dk_get daX16_isRight 129 (r := (251, .invokevirtual 143, 3)) rfl
theorem dX16_isRight_254 : decode cX16_isRight 254 = .ok (.aload_n 0, 1) := dk_get daX16_isRight 130 (r := (254, .aload_n 0, 1)) rfl
theorem dX16_isRight_255 : decode cX16_isRight 255 = .ok (.getfield 228, 3) := dk_get daX16_isRight 131 (r := (255, .getfield 228, 3)) rfl
theorem dX16_isRight_258 : decode cX16_isRight 258 = .ok (.getfield 90, 3) := dk_get daX16_isRight 132 (r := (258, .getfield 90, 3)) rfl
theorem dX16_isRight_261 : decode cX16_isRight 261 = .ok (.invokestatic 95, 3) := dk_get daX16_isRight 133 (r := (261, .invokestatic 95, 3)) rfl
theorem dX16_isRight_264 : decode cX16_isRight 264 = .ok (.ifCond .eq 5, 3) := dk_get daX16_isRight 134 (r := (264, .ifCond .eq 5, 3)) rfl
theorem dX16_isRight_267 : decode cX16_isRight 267 = .ok (.iconst 0, 1) := dk_get daX16_isRight 135 (r := (267, .iconst 0, 1)) rfl
theorem dX16_isRight_268 : decode cX16_isRight 268 = .ok (.ireturn, 1) := dk_get daX16_isRight 136 (r := (268, .ireturn, 1)) rfl
theorem dX16_isRight_269 : decode cX16_isRight 269 = .ok (.aload_n 0, 1) := dk_get daX16_isRight 137 (r := (269, .aload_n 0, 1)) rfl
theorem dX16_isRight_270 : decode cX16_isRight 270 = .ok (.aload_n 0, 1) := dk_get daX16_isRight 138 (r := (270, .aload_n 0, 1)) rfl
theorem dX16_isRight_271 : decode cX16_isRight 271 = .ok (.getfield 228, 3) := dk_get daX16_isRight 139 (r := (271, .getfield 228, 3)) rfl
theorem dX16_isRight_274 : decode cX16_isRight 274 = .ok (.aload_n 0, 1) := dk_get daX16_isRight 140 (r := (274, .aload_n 0, 1)) rfl
theorem dX16_isRight_275 : decode cX16_isRight 275 = .ok (.getfield 155, 3) := dk_get daX16_isRight 141 (r := (275, .getfield 155, 3)) rfl
theorem dX16_isRight_278 : decode cX16_isRight 278 = .ok (.aload_n 0, 1) := dk_get daX16_isRight 142 (r := (278, .aload_n 0, 1)) rfl
theorem dX16_isRight_279 : decode cX16_isRight 279 = .ok (.getfield 185, 3) := dk_get daX16_isRight 143 (r := (279, .getfield 185, 3)) rfl
theorem dX16_isRight_282 : decode cX16_isRight 282 = .ok (.invokevirtual 237, 3) := dk_get daX16_isRight 144 (r := (282, .invokevirtual 237, 3)) rfl
theorem dX16_isRight_285 : decode cX16_isRight 285 = .ok (.aload_n 0, 1) := dk_get daX16_isRight 145 (r := (285, .aload_n 0, 1)) rfl
theorem dX16_isRight_286 : decode cX16_isRight 286 = .ok (.getfield 155, 3) := dk_get daX16_isRight 146 (r := (286, .getfield 155, 3)) rfl
theorem dX16_isRight_289 : decode cX16_isRight 289 = .ok (.aload_n 0, 1) := dk_get daX16_isRight 147 (r := (289, .aload_n 0, 1)) rfl
theorem dX16_isRight_290 : decode cX16_isRight 290 = .ok (.getfield 192, 3) := dk_get daX16_isRight 148 (r := (290, .getfield 192, 3)) rfl
theorem dX16_isRight_293 : decode cX16_isRight 293 = .ok (.getfield 162, 3) := dk_get daX16_isRight 149 (r := (293, .getfield 162, 3)) rfl
theorem dX16_isRight_296 : decode cX16_isRight 296 = .ok (.invokestatic 165, 3) := dk_get daX16_isRight 150 (r := (296, .invokestatic 165, 3)) rfl
theorem dX16_isRight_299 : decode cX16_isRight 299 = .ok (.ifCond .lt 22, 3) := dk_get daX16_isRight 151 (r := (299, .ifCond .lt 22, 3)) rfl
theorem dX16_isRight_302 : decode cX16_isRight 302 = .ok (.aload_n 0, 1) := dk_get daX16_isRight 152 (r := (302, .aload_n 0, 1)) rfl
theorem dX16_isRight_303 : decode cX16_isRight 303 = .ok (.getfield 155, 3) := dk_get daX16_isRight 153 (r := (303, .getfield 155, 3)) rfl
theorem dX16_isRight_306 : decode cX16_isRight 306 = .ok (.aload_n 0, 1) := dk_get daX16_isRight 154 (r := (306, .aload_n 0, 1)) rfl
theorem dX16_isRight_307 : decode cX16_isRight 307 = .ok (.getfield 192, 3) := dk_get daX16_isRight 155 (r := (307, .getfield 192, 3)) rfl
theorem dX16_isRight_310 : decode cX16_isRight 310 = .ok (.getfield 162, 3) := dk_get daX16_isRight 156 (r := (310, .getfield 162, 3)) rfl
theorem dX16_isRight_313 : decode cX16_isRight 313 = .ok (.aload_n 0, 1) := dk_get daX16_isRight 157 (r := (313, .aload_n 0, 1)) rfl
theorem dX16_isRight_314 : decode cX16_isRight 314 = .ok (.getfield 155, 3) := dk_get daX16_isRight 158 (r := (314, .getfield 155, 3)) rfl
theorem dX16_isRight_317 : decode cX16_isRight 317 = .ok (.invokestatic 241, 3) := dk_get daX16_isRight 159 (r := (317, .invokestatic 241, 3)) rfl
theorem dX16_isRight_320 : decode cX16_isRight 320 = .ok (.pop2, 1) := dk_get daX16_isRight 160 (r := (320, .pop2, 1)) rfl
theorem dX16_isRight_321 : decode cX16_isRight 321 = .ok (.aload_n 0, 1) := dk_get daX16_isRight 161 (r := (321, .aload_n 0, 1)) rfl
theorem dX16_isRight_322 : decode cX16_isRight 322 = .ok (.getfield 155, 3) := dk_get daX16_isRight 162 (r := (322, .getfield 155, 3)) rfl
theorem dX16_isRight_325 : decode cX16_isRight 325 = .ok (.aload_n 0, 1) := dk_get daX16_isRight 163 (r := (325, .aload_n 0, 1)) rfl
theorem dX16_isRight_326 : decode cX16_isRight 326 = .ok (.getfield 203, 3) := dk_get daX16_isRight 164 (r := (326, .getfield 203, 3)) rfl
theorem dX16_isRight_329 : decode cX16_isRight 329 = .ok (.invokestatic 188, 3) := dk_get daX16_isRight 165 (r := (329, .invokestatic 188, 3)) rfl
theorem dX16_isRight_332 : decode cX16_isRight 332 = .ok (.ireturn, 1) := dk_get daX16_isRight 166 (r := (332, .ireturn, 1)) rfl
set_option maxRecDepth 100000 in
theorem kx_31 : (Jvm.Cond.initialized "CoinJudgeModel$Point") ∈ lw_tbl := List.mem_append_right _ (List.mem_of_getElem? (i := 31) (by rfl))
set_option maxRecDepth 100000 in
theorem kx_1790 : (Jvm.Cond.code ({ cls := "CoinJudgeModel$Point", name := "<init>", desc := "()V" } : Jvm.MethodName) prog_17_method_1_code (1 : Nat) (Option.none : Option Jvm.ClassFile.FieldType)) ∈ lw_tbl := List.mem_append_right _ (List.mem_of_getElem? (i := 1790) (by rfl))
set_option maxRecDepth 100000 in
theorem kx_1791 : (Jvm.Cond.methodLink "CoinJudgeModel$Point" (1 : Nat) ({ cls := "java/lang/Object", name := "<init>", desc := "()V" } : Jvm.MethodName)) ∈ lw_tbl := List.mem_append_right _ (List.mem_of_getElem? (i := 1791) (by rfl))
set_option maxRecDepth 100000 in
theorem kx_1792 : (Jvm.Cond.fieldLink "CoinJudgeModel$Point" (7 : Nat) "CoinJudgeModel$Point" "x" "[I") ∈ lw_tbl := List.mem_append_right _ (List.mem_of_getElem? (i := 1792) (by rfl))
set_option maxRecDepth 100000 in
theorem kx_1793 : (Jvm.Cond.fieldLinkNest "CoinJudgeModel" (115 : Nat) "CoinJudgeModel$Point" "x" "[I" "CoinJudgeModel") ∈ lw_tbl := List.mem_append_right _ (List.mem_of_getElem? (i := 1793) (by rfl))
set_option maxRecDepth 100000 in
theorem kx_1794 : (Jvm.Cond.fieldLink "CoinJudgeModel$Point" (13 : Nat) "CoinJudgeModel$Point" "y" "[I") ∈ lw_tbl := List.mem_append_right _ (List.mem_of_getElem? (i := 1794) (by rfl))
set_option maxRecDepth 100000 in
theorem kx_1795 : (Jvm.Cond.fieldLinkNest "CoinJudgeModel" (105 : Nat) "CoinJudgeModel$Point" "y" "[I" "CoinJudgeModel") ∈ lw_tbl := List.mem_append_right _ (List.mem_of_getElem? (i := 1795) (by rfl))
set_option maxRecDepth 100000 in
theorem kx_1796 : (Jvm.Cond.fieldLink "CoinJudgeModel$Point" (16 : Nat) "CoinJudgeModel$Point" "z" "[I") ∈ lw_tbl := List.mem_append_right _ (List.mem_of_getElem? (i := 1796) (by rfl))
set_option maxRecDepth 100000 in
theorem kx_1797 : (Jvm.Cond.fieldLinkNest "CoinJudgeModel" (90 : Nat) "CoinJudgeModel$Point" "z" "[I" "CoinJudgeModel") ∈ lw_tbl := List.mem_append_right _ (List.mem_of_getElem? (i := 1797) (by rfl))
set_option maxRecDepth 100000 in
theorem kx_1879 : (Jvm.Cond.fieldLinkNest "CoinJudgeModel" (162 : Nat) "CoinJudgeModel$Ring" "modulus" "[I" "CoinJudgeModel") ∈ lw_tbl := List.mem_append_right _ (List.mem_of_getElem? (i := 1879) (by rfl))
set_option maxRecDepth 100000 in
theorem kx_1882 : (Jvm.Cond.fieldLinkNest "CoinJudgeModel" (179 : Nat) "CoinJudgeModel$Ring" "one" "[I" "CoinJudgeModel") ∈ lw_tbl := List.mem_append_right _ (List.mem_of_getElem? (i := 1882) (by rfl))
set_option maxRecDepth 100000 in
theorem kx_1907 : (Jvm.Cond.code ({ cls := "CoinJudgeModel", name := "isPrime", desc := "(I)Z" } : Jvm.MethodName) prog_14_method_3_code (2 : Nat) (Option.some Jvm.ClassFile.FieldType.boolean)) ∈ lw_tbl := List.mem_append_right _ (List.mem_of_getElem? (i := 1907) (by rfl))
set_option maxRecDepth 100000 in
theorem kx_1911 : (Jvm.Cond.code ({ cls := "CoinJudgeModel", name := "fraction", desc := "(IZ)I" } : Jvm.MethodName) prog_14_method_5_code (10 : Nat) (Option.some Jvm.ClassFile.FieldType.int)) ∈ lw_tbl := List.mem_append_right _ (List.mem_of_getElem? (i := 1911) (by rfl))
set_option maxRecDepth 100000 in
theorem kx_1912 : (Jvm.Cond.constantLong "CoinJudgeModel" (7 : Nat) (65535 : Int64)) ∈ lw_tbl := List.mem_append_right _ (List.mem_of_getElem? (i := 1912) (by rfl))
set_option maxRecDepth 100000 in
theorem kx_1913 : (Jvm.Cond.methodLink "CoinJudgeModel" (12 : Nat) ({ cls := "CoinJudgeModel", name := "times", desc := "([JI[J)V" } : Jvm.MethodName)) ∈ lw_tbl := List.mem_append_right _ (List.mem_of_getElem? (i := 1913) (by rfl))
set_option maxRecDepth 100000 in
theorem kx_1915 : (Jvm.Cond.instanceMethod ({ cls := "CoinJudgeModel", name := "times", desc := "([JI[J)V" } : Jvm.MethodName)) ∈ lw_tbl := List.mem_append_right _ (List.mem_of_getElem? (i := 1915) (by rfl))
set_option maxRecDepth 100000 in
theorem kx_1916 : (Jvm.Cond.code ({ cls := "CoinJudgeModel", name := "times", desc := "([JI[J)V" } : Jvm.MethodName) prog_14_method_4_code (6 : Nat) (Option.none : Option Jvm.ClassFile.FieldType)) ∈ lw_tbl := List.mem_append_right _ (List.mem_of_getElem? (i := 1916) (by rfl))
set_option maxRecDepth 100000 in
theorem kx_1917 : (Jvm.Cond.methodLink "CoinJudgeModel" (173 : Nat) ({ cls := "CoinJudgeModel$Ring", name := "enter", desc := "([I[I)V" } : Jvm.MethodName)) ∈ lw_tbl := List.mem_append_right _ (List.mem_of_getElem? (i := 1917) (by rfl))
set_option maxRecDepth 100000 in
theorem kx_1918 : (Jvm.Cond.instanceMethod ({ cls := "CoinJudgeModel$Ring", name := "enter", desc := "([I[I)V" } : Jvm.MethodName)) ∈ lw_tbl := List.mem_append_right _ (List.mem_of_getElem? (i := 1918) (by rfl))
set_option maxRecDepth 100000 in
theorem kx_1919 : (Jvm.Cond.selects "CoinJudgeModel$Ring" ({ cls := "CoinJudgeModel$Ring", name := "enter", desc := "([I[I)V" } : Jvm.MethodName) ({ cls := "CoinJudgeModel$Ring", name := "enter", desc := "([I[I)V" } : Jvm.MethodName)) ∈ lw_tbl := List.mem_append_right _ (List.mem_of_getElem? (i := 1919) (by rfl))
set_option maxRecDepth 100000 in
theorem kx_1945 : (Jvm.Cond.methodLink "CoinJudgeModel" (182 : Nat) ({ cls := "CoinJudgeModel$Ring", name := "copy", desc := "([I[I)V" } : Jvm.MethodName)) ∈ lw_tbl := List.mem_append_right _ (List.mem_of_getElem? (i := 1945) (by rfl))
set_option maxRecDepth 100000 in
theorem kx_2035 : (Jvm.Cond.methodLink "CoinJudgeModel" (165 : Nat) ({ cls := "CoinJudgeModel$Ring", name := "compare", desc := "([I[I)I" } : Jvm.MethodName)) ∈ lw_tbl := List.mem_append_right _ (List.mem_of_getElem? (i := 2035) (by rfl))
set_option maxRecDepth 100000 in
theorem kx_2043 : (Jvm.Cond.methodLink "CoinJudgeModel" (158 : Nat) ({ cls := "CoinJudgeModel", name := "fromBytes", desc := "([BIZ[I)V" } : Jvm.MethodName)) ∈ lw_tbl := List.mem_append_right _ (List.mem_of_getElem? (i := 2043) (by rfl))
set_option maxRecDepth 100000 in
theorem kx_2044 : (Jvm.Cond.static ({ cls := "CoinJudgeModel", name := "fromBytes", desc := "([BIZ[I)V" } : Jvm.MethodName)) ∈ lw_tbl := List.mem_append_right _ (List.mem_of_getElem? (i := 2044) (by rfl))
set_option maxRecDepth 100000 in
theorem kx_2045 : (Jvm.Cond.code ({ cls := "CoinJudgeModel", name := "fromBytes", desc := "([BIZ[I)V" } : Jvm.MethodName) prog_14_method_1_code (7 : Nat) (Option.none : Option Jvm.ClassFile.FieldType)) ∈ lw_tbl := List.mem_append_right _ (List.mem_of_getElem? (i := 2045) (by rfl))
set_option maxRecDepth 100000 in
theorem kx_2117 : (Jvm.Cond.methodLink "CoinJudgeModel" (241 : Nat) ({ cls := "CoinJudgeModel$Ring", name := "less", desc := "([I[I[I)J" } : Jvm.MethodName)) ∈ lw_tbl := List.mem_append_right _ (List.mem_of_getElem? (i := 2117) (by rfl))
set_option maxRecDepth 100000 in
theorem kx_2252 : (Jvm.Cond.code ({ cls := "CoinJudgeModel", name := "isDer", desc := "([BI)Z" } : Jvm.MethodName) prog_14_method_21_code (5 : Nat) (Option.some Jvm.ClassFile.FieldType.boolean)) ∈ lw_tbl := List.mem_append_right _ (List.mem_of_getElem? (i := 2252) (by rfl))
set_option maxRecDepth 100000 in
theorem kx_2253 : (Jvm.Cond.methodLink "CoinJudgeModel" (195 : Nat) ({ cls := "CoinJudgeModel", name := "shortest", desc := "([BII)Z" } : Jvm.MethodName)) ∈ lw_tbl := List.mem_append_right _ (List.mem_of_getElem? (i := 2253) (by rfl))
set_option maxRecDepth 100000 in
theorem kx_2254 : (Jvm.Cond.static ({ cls := "CoinJudgeModel", name := "shortest", desc := "([BII)Z" } : Jvm.MethodName)) ∈ lw_tbl := List.mem_append_right _ (List.mem_of_getElem? (i := 2254) (by rfl))
set_option maxRecDepth 100000 in
theorem kx_2255 : (Jvm.Cond.code ({ cls := "CoinJudgeModel", name := "shortest", desc := "([BII)Z" } : Jvm.MethodName) prog_14_method_22_code (3 : Nat) (Option.some Jvm.ClassFile.FieldType.boolean)) ∈ lw_tbl := List.mem_append_right _ (List.mem_of_getElem? (i := 2255) (by rfl))
set_option maxRecDepth 100000 in
theorem kx_2280 : (Jvm.Cond.code ({ cls := "CoinJudgeModel", name := "isRight", desc := "([B[BI)Z" } : Jvm.MethodName) prog_14_method_23_code (6 : Nat) (Option.some Jvm.ClassFile.FieldType.boolean)) ∈ lw_tbl := List.mem_append_right _ (List.mem_of_getElem? (i := 2280) (by rfl))
set_option maxRecDepth 100000 in
theorem kx_2281 : (Jvm.Cond.methodLink "CoinJudgeModel" (199 : Nat) ({ cls := "CoinJudgeModel", name := "readKey", desc := "([BI)Z" } : Jvm.MethodName)) ∈ lw_tbl := List.mem_append_right _ (List.mem_of_getElem? (i := 2281) (by rfl))
set_option maxRecDepth 100000 in
theorem kx_2283 : (Jvm.Cond.instanceMethod ({ cls := "CoinJudgeModel", name := "readKey", desc := "([BI)Z" } : Jvm.MethodName)) ∈ lw_tbl := List.mem_append_right _ (List.mem_of_getElem? (i := 2283) (by rfl))
set_option maxRecDepth 100000 in
theorem kx_2284 : (Jvm.Cond.code ({ cls := "CoinJudgeModel", name := "readKey", desc := "([BI)Z" } : Jvm.MethodName) prog_14_method_19_code (5 : Nat) (Option.some Jvm.ClassFile.FieldType.boolean)) ∈ lw_tbl := List.mem_append_right _ (List.mem_of_getElem? (i := 2284) (by rfl))
set_option maxRecDepth 100000 in
theorem kx_2285 : (Jvm.Cond.methodLink "CoinJudgeModel" (111 : Nat) ({ cls := "CoinJudgeModel$Ring", name := "multiply", desc := "([I[I[I)V" } : Jvm.MethodName)) ∈ lw_tbl := List.mem_append_right _ (List.mem_of_getElem? (i := 2285) (by rfl))
set_option maxRecDepth 100000 in
theorem kx_2286 : (Jvm.Cond.methodLink "CoinJudgeModel" (121 : Nat) ({ cls := "CoinJudgeModel$Ring", name := "add", desc := "([I[I[I)V" } : Jvm.MethodName)) ∈ lw_tbl := List.mem_append_right _ (List.mem_of_getElem? (i := 2286) (by rfl))
set_option maxRecDepth 100000 in
theorem kx_2287 : (Jvm.Cond.methodLink "CoinJudgeModel" (188 : Nat) ({ cls := "CoinJudgeModel$Ring", name := "same", desc := "([I[I)Z" } : Jvm.MethodName)) ∈ lw_tbl := List.mem_append_right _ (List.mem_of_getElem? (i := 2287) (by rfl))
set_option maxRecDepth 100000 in
theorem kx_2288 : (Jvm.Cond.static ({ cls := "CoinJudgeModel$Ring", name := "same", desc := "([I[I)Z" } : Jvm.MethodName)) ∈ lw_tbl := List.mem_append_right _ (List.mem_of_getElem? (i := 2288) (by rfl))
set_option maxRecDepth 100000 in
theorem kx_2290 : (Jvm.Cond.methodLink "CoinJudgeModel" (147 : Nat) ({ cls := "CoinJudgeModel$Ring", name := "power", desc := "([III[I)V" } : Jvm.MethodName)) ∈ lw_tbl := List.mem_append_right _ (List.mem_of_getElem? (i := 2290) (by rfl))
set_option maxRecDepth 100000 in
theorem kx_2291 : (Jvm.Cond.instanceMethod ({ cls := "CoinJudgeModel$Ring", name := "power", desc := "([III[I)V" } : Jvm.MethodName)) ∈ lw_tbl := List.mem_append_right _ (List.mem_of_getElem? (i := 2291) (by rfl))
set_option maxRecDepth 100000 in
theorem kx_2292 : (Jvm.Cond.selects "CoinJudgeModel$Ring" ({ cls := "CoinJudgeModel$Ring", name := "power", desc := "([III[I)V" } : Jvm.MethodName) ({ cls := "CoinJudgeModel$Ring", name := "power", desc := "([III[I)V" } : Jvm.MethodName)) ∈ lw_tbl := List.mem_append_right _ (List.mem_of_getElem? (i := 2292) (by rfl))
set_option maxRecDepth 100000 in
theorem kx_2294 : (Jvm.Cond.methodLink "CoinJudgeModel" (151 : Nat) ({ cls := "CoinJudgeModel$Ring", name := "leave", desc := "([I[I)V" } : Jvm.MethodName)) ∈ lw_tbl := List.mem_append_right _ (List.mem_of_getElem? (i := 2294) (by rfl))
set_option maxRecDepth 100000 in
theorem kx_2295 : (Jvm.Cond.instanceMethod ({ cls := "CoinJudgeModel$Ring", name := "leave", desc := "([I[I)V" } : Jvm.MethodName)) ∈ lw_tbl := List.mem_append_right _ (List.mem_of_getElem? (i := 2295) (by rfl))
set_option maxRecDepth 100000 in
theorem kx_2296 : (Jvm.Cond.selects "CoinJudgeModel$Ring" ({ cls := "CoinJudgeModel$Ring", name := "leave", desc := "([I[I)V" } : Jvm.MethodName) ({ cls := "CoinJudgeModel$Ring", name := "leave", desc := "([I[I)V" } : Jvm.MethodName)) ∈ lw_tbl := List.mem_append_right _ (List.mem_of_getElem? (i := 2296) (by rfl))
set_option maxRecDepth 100000 in
theorem kx_2298 : (Jvm.Cond.methodLink "CoinJudgeModel" (133 : Nat) ({ cls := "CoinJudgeModel$Ring", name := "subtract", desc := "([I[I[I)V" } : Jvm.MethodName)) ∈ lw_tbl := List.mem_append_right _ (List.mem_of_getElem? (i := 2298) (by rfl))
set_option maxRecDepth 100000 in
theorem kx_2299 : (Jvm.Cond.instanceMethod ({ cls := "CoinJudgeModel$Ring", name := "subtract", desc := "([I[I[I)V" } : Jvm.MethodName)) ∈ lw_tbl := List.mem_append_right _ (List.mem_of_getElem? (i := 2299) (by rfl))
set_option maxRecDepth 100000 in
theorem kx_2300 : (Jvm.Cond.selects "CoinJudgeModel$Ring" ({ cls := "CoinJudgeModel$Ring", name := "subtract", desc := "([I[I[I)V" } : Jvm.MethodName) ({ cls := "CoinJudgeModel$Ring", name := "subtract", desc := "([I[I[I)V" } : Jvm.MethodName)) ∈ lw_tbl := List.mem_append_right _ (List.mem_of_getElem? (i := 2300) (by rfl))
set_option maxRecDepth 100000 in
theorem kx_2302 : (Jvm.Cond.methodLink "CoinJudgeModel" (206 : Nat) ({ cls := "CoinJudgeModel", name := "part", desc := "([BII[I)Z" } : Jvm.MethodName)) ∈ lw_tbl := List.mem_append_right _ (List.mem_of_getElem? (i := 2302) (by rfl))
set_option maxRecDepth 100000 in
theorem kx_2304 : (Jvm.Cond.instanceMethod ({ cls := "CoinJudgeModel", name := "part", desc := "([BII[I)Z" } : Jvm.MethodName)) ∈ lw_tbl := List.mem_append_right _ (List.mem_of_getElem? (i := 2304) (by rfl))
set_option maxRecDepth 100000 in
theorem kx_2305 : (Jvm.Cond.code ({ cls := "CoinJudgeModel", name := "part", desc := "([BII[I)Z" } : Jvm.MethodName) prog_14_method_20_code (7 : Nat) (Option.some Jvm.ClassFile.FieldType.boolean)) ∈ lw_tbl := List.mem_append_right _ (List.mem_of_getElem? (i := 2305) (by rfl))
set_option maxRecDepth 100000 in
theorem kx_2306 : (Jvm.Cond.methodLink "CoinJudgeModel" (95 : Nat) ({ cls := "CoinJudgeModel$Ring", name := "isZero", desc := "([I)Z" } : Jvm.MethodName)) ∈ lw_tbl := List.mem_append_right _ (List.mem_of_getElem? (i := 2306) (by rfl))
set_option maxRecDepth 100000 in
theorem kx_2307 : (Jvm.Cond.static ({ cls := "CoinJudgeModel$Ring", name := "isZero", desc := "([I)Z" } : Jvm.MethodName)) ∈ lw_tbl := List.mem_append_right _ (List.mem_of_getElem? (i := 2307) (by rfl))
set_option maxRecDepth 100000 in
theorem kx_2309 : (Jvm.Cond.methodLink "CoinJudgeModel" (231 : Nat) ({ cls := "CoinJudgeModel", name := "times", desc := "([ILCoinJudgeModel$Point;LCoinJudgeModel$Point;)V" } : Jvm.MethodName)) ∈ lw_tbl := List.mem_append_right _ (List.mem_of_getElem? (i := 2309) (by rfl))
set_option maxRecDepth 100000 in
theorem kx_2311 : (Jvm.Cond.instanceMethod ({ cls := "CoinJudgeModel", name := "times", desc := "([ILCoinJudgeModel$Point;LCoinJudgeModel$Point;)V" } : Jvm.MethodName)) ∈ lw_tbl := List.mem_append_right _ (List.mem_of_getElem? (i := 2311) (by rfl))
set_option maxRecDepth 100000 in
theorem kx_2312 : (Jvm.Cond.code ({ cls := "CoinJudgeModel", name := "times", desc := "([ILCoinJudgeModel$Point;LCoinJudgeModel$Point;)V" } : Jvm.MethodName) prog_14_method_17_code (5 : Nat) (Option.none : Option Jvm.ClassFile.FieldType)) ∈ lw_tbl := List.mem_append_right _ (List.mem_of_getElem? (i := 2312) (by rfl))
set_option maxRecDepth 100000 in
theorem kx_2313 : (Jvm.Cond.methodLink "CoinJudgeModel" (140 : Nat) ({ cls := "CoinJudgeModel", name := "doubled", desc := "(LCoinJudgeModel$Point;)V" } : Jvm.MethodName)) ∈ lw_tbl := List.mem_append_right _ (List.mem_of_getElem? (i := 2313) (by rfl))
set_option maxRecDepth 100000 in
theorem kx_2315 : (Jvm.Cond.instanceMethod ({ cls := "CoinJudgeModel", name := "doubled", desc := "(LCoinJudgeModel$Point;)V" } : Jvm.MethodName)) ∈ lw_tbl := List.mem_append_right _ (List.mem_of_getElem? (i := 2315) (by rfl))
set_option maxRecDepth 100000 in
theorem kx_2316 : (Jvm.Cond.code ({ cls := "CoinJudgeModel", name := "doubled", desc := "(LCoinJudgeModel$Point;)V" } : Jvm.MethodName) prog_14_method_15_code (2 : Nat) (Option.none : Option Jvm.ClassFile.FieldType)) ∈ lw_tbl := List.mem_append_right _ (List.mem_of_getElem? (i := 2316) (by rfl))
set_option maxRecDepth 100000 in
theorem kx_2317 : (Jvm.Cond.methodLink "CoinJudgeModel" (143 : Nat) ({ cls := "CoinJudgeModel", name := "plus", desc := "(LCoinJudgeModel$Point;LCoinJudgeModel$Point;)V" } : Jvm.MethodName)) ∈ lw_tbl := List.mem_append_right _ (List.mem_of_getElem? (i := 2317) (by rfl))
set_option maxRecDepth 100000 in
theorem kx_2319 : (Jvm.Cond.instanceMethod ({ cls := "CoinJudgeModel", name := "plus", desc := "(LCoinJudgeModel$Point;LCoinJudgeModel$Point;)V" } : Jvm.MethodName)) ∈ lw_tbl := List.mem_append_right _ (List.mem_of_getElem? (i := 2319) (by rfl))
set_option maxRecDepth 100000 in
theorem kx_2320 : (Jvm.Cond.code ({ cls := "CoinJudgeModel", name := "plus", desc := "(LCoinJudgeModel$Point;LCoinJudgeModel$Point;)V" } : Jvm.MethodName) prog_14_method_16_code (4 : Nat) (Option.none : Option Jvm.ClassFile.FieldType)) ∈ lw_tbl := List.mem_append_right _ (List.mem_of_getElem? (i := 2320) (by rfl))
set_option maxRecDepth 100000 in
theorem kx_2321 : (Jvm.Cond.methodLink "CoinJudgeModel" (136 : Nat) ({ cls := "CoinJudgeModel$Point", name := "take", desc := "(LCoinJudgeModel$Point;)V" } : Jvm.MethodName)) ∈ lw_tbl := List.mem_append_right _ (List.mem_of_getElem? (i := 2321) (by rfl))
set_option maxRecDepth 100000 in
theorem kx_2322 : (Jvm.Cond.instanceMethod ({ cls := "CoinJudgeModel$Point", name := "take", desc := "(LCoinJudgeModel$Point;)V" } : Jvm.MethodName)) ∈ lw_tbl := List.mem_append_right _ (List.mem_of_getElem? (i := 2322) (by rfl))
set_option maxRecDepth 100000 in
theorem kx_2323 : (Jvm.Cond.selects "CoinJudgeModel$Point" ({ cls := "CoinJudgeModel$Point", name := "take", desc := "(LCoinJudgeModel$Point;)V" } : Jvm.MethodName) ({ cls := "CoinJudgeModel$Point", name := "take", desc := "(LCoinJudgeModel$Point;)V" } : Jvm.MethodName)) ∈ lw_tbl := List.mem_append_right _ (List.mem_of_getElem? (i := 2323) (by rfl))
set_option maxRecDepth 100000 in
theorem kx_2324 : (Jvm.Cond.code ({ cls := "CoinJudgeModel$Point", name := "take", desc := "(LCoinJudgeModel$Point;)V" } : Jvm.MethodName) prog_17_method_2_code (2 : Nat) (Option.none : Option Jvm.ClassFile.FieldType)) ∈ lw_tbl := List.mem_append_right _ (List.mem_of_getElem? (i := 2324) (by rfl))
set_option maxRecDepth 100000 in
theorem kx_2325 : (Jvm.Cond.methodLink "CoinJudgeModel$Point" (19 : Nat) ({ cls := "CoinJudgeModel$Ring", name := "copy", desc := "([I[I)V" } : Jvm.MethodName)) ∈ lw_tbl := List.mem_append_right _ (List.mem_of_getElem? (i := 2325) (by rfl))
set_option maxRecDepth 100000 in
theorem kx_2326 : (Jvm.Cond.methodLink "CoinJudgeModel" (237 : Nat) ({ cls := "CoinJudgeModel", name := "flat", desc := "(LCoinJudgeModel$Point;[I[I)V" } : Jvm.MethodName)) ∈ lw_tbl := List.mem_append_right _ (List.mem_of_getElem? (i := 2326) (by rfl))
set_option maxRecDepth 100000 in
theorem kx_2328 : (Jvm.Cond.instanceMethod ({ cls := "CoinJudgeModel", name := "flat", desc := "(LCoinJudgeModel$Point;[I[I)V" } : Jvm.MethodName)) ∈ lw_tbl := List.mem_append_right _ (List.mem_of_getElem? (i := 2328) (by rfl))
set_option maxRecDepth 100000 in
theorem kx_2329 : (Jvm.Cond.code ({ cls := "CoinJudgeModel", name := "flat", desc := "(LCoinJudgeModel$Point;[I[I)V" } : Jvm.MethodName) prog_14_method_18_code (4 : Nat) (Option.none : Option Jvm.ClassFile.FieldType)) ∈ lw_tbl := List.mem_append_right _ (List.mem_of_getElem? (i := 2329) (by rfl))
set_option maxRecDepth 100000 in
theorem kx_2373 : (Jvm.Cond.fieldLink "CoinJudgeModel" (1 : Nat) "CoinJudgeModel" "once" "[J") ∈ lw_tbl := List.mem_append_right _ (List.mem_of_getElem? (i := 2373) (by rfl))
set_option maxRecDepth 100000 in
theorem kx_2374 : (Jvm.Cond.fieldLink "CoinJudgeModel" (9 : Nat) "CoinJudgeModel" "square" "[J") ∈ lw_tbl := List.mem_append_right _ (List.mem_of_getElem? (i := 2374) (by rfl))
set_option maxRecDepth 100000 in
theorem kx_2375 : (Jvm.Cond.fieldLink "CoinJudgeModel" (16 : Nat) "CoinJudgeModel" "cube" "[J") ∈ lw_tbl := List.mem_append_right _ (List.mem_of_getElem? (i := 2375) (by rfl))
set_option maxRecDepth 100000 in
theorem kx_2383 : (Jvm.Cond.fieldLink "CoinJudgeModel" (101 : Nat) "CoinJudgeModel" "field" "LCoinJudgeModel$Ring;") ∈ lw_tbl := List.mem_append_right _ (List.mem_of_getElem? (i := 2383) (by rfl))
set_option maxRecDepth 100000 in
theorem kx_2384 : (Jvm.Cond.fieldLink "CoinJudgeModel" (192 : Nat) "CoinJudgeModel" "order" "LCoinJudgeModel$Ring;") ∈ lw_tbl := List.mem_append_right _ (List.mem_of_getElem? (i := 2384) (by rfl))
set_option maxRecDepth 100000 in
theorem kx_2385 : (Jvm.Cond.fieldLink "CoinJudgeModel" (176 : Nat) "CoinJudgeModel" "seven" "[I") ∈ lw_tbl := List.mem_append_right _ (List.mem_of_getElem? (i := 2385) (by rfl))
set_option maxRecDepth 100000 in
theorem kx_2386 : (Jvm.Cond.fieldLink "CoinJudgeModel" (225 : Nat) "CoinJudgeModel" "generator" "LCoinJudgeModel$Point;") ∈ lw_tbl := List.mem_append_right _ (List.mem_of_getElem? (i := 2386) (by rfl))
set_option maxRecDepth 100000 in
theorem kx_2387 : (Jvm.Cond.fieldLink "CoinJudgeModel" (169 : Nat) "CoinJudgeModel" "key" "LCoinJudgeModel$Point;") ∈ lw_tbl := List.mem_append_right _ (List.mem_of_getElem? (i := 2387) (by rfl))
set_option maxRecDepth 100000 in
theorem kx_2388 : (Jvm.Cond.fieldLink "CoinJudgeModel" (228 : Nat) "CoinJudgeModel" "sum" "LCoinJudgeModel$Point;") ∈ lw_tbl := List.mem_append_right _ (List.mem_of_getElem? (i := 2388) (by rfl))
set_option maxRecDepth 100000 in
theorem kx_2389 : (Jvm.Cond.fieldLink "CoinJudgeModel" (234 : Nat) "CoinJudgeModel" "work" "LCoinJudgeModel$Point;") ∈ lw_tbl := List.mem_append_right _ (List.mem_of_getElem? (i := 2389) (by rfl))
set_option maxRecDepth 100000 in
theorem kx_2390 : (Jvm.Cond.fieldLink "CoinJudgeModel" (108 : Nat) "CoinJudgeModel" "a" "[I") ∈ lw_tbl := List.mem_append_right _ (List.mem_of_getElem? (i := 2390) (by rfl))
set_option maxRecDepth 100000 in
theorem kx_2391 : (Jvm.Cond.fieldLink "CoinJudgeModel" (118 : Nat) "CoinJudgeModel" "b" "[I") ∈ lw_tbl := List.mem_append_right _ (List.mem_of_getElem? (i := 2391) (by rfl))
set_option maxRecDepth 100000 in
theorem kx_2392 : (Jvm.Cond.fieldLink "CoinJudgeModel" (124 : Nat) "CoinJudgeModel" "c" "[I") ∈ lw_tbl := List.mem_append_right _ (List.mem_of_getElem? (i := 2392) (by rfl))
set_option maxRecDepth 100000 in
theorem kx_2393 : (Jvm.Cond.fieldLink "CoinJudgeModel" (127 : Nat) "CoinJudgeModel" "d" "[I") ∈ lw_tbl := List.mem_append_right _ (List.mem_of_getElem? (i := 2393) (by rfl))
set_option maxRecDepth 100000 in
theorem kx_2394 : (Jvm.Cond.fieldLink "CoinJudgeModel" (130 : Nat) "CoinJudgeModel" "e" "[I") ∈ lw_tbl := List.mem_append_right _ (List.mem_of_getElem? (i := 2394) (by rfl))
set_option maxRecDepth 100000 in
theorem kx_2396 : (Jvm.Cond.fieldLink "CoinJudgeModel" (155 : Nat) "CoinJudgeModel" "px" "[I") ∈ lw_tbl := List.mem_append_right _ (List.mem_of_getElem? (i := 2396) (by rfl))
set_option maxRecDepth 100000 in
theorem kx_2397 : (Jvm.Cond.fieldLink "CoinJudgeModel" (185 : Nat) "CoinJudgeModel" "py" "[I") ∈ lw_tbl := List.mem_append_right _ (List.mem_of_getElem? (i := 2397) (by rfl))
set_option maxRecDepth 100000 in
theorem kx_2398 : (Jvm.Cond.fieldLink "CoinJudgeModel" (203 : Nat) "CoinJudgeModel" "\x72" "[I") ∈ lw_tbl := List.mem_append_right _ (List.mem_of_getElem? (i := 2398) (by rfl))
set_option maxRecDepth 100000 in
theorem kx_2399 : (Jvm.Cond.fieldLink "CoinJudgeModel" (210 : Nat) "CoinJudgeModel" "s" "[I") ∈ lw_tbl := List.mem_append_right _ (List.mem_of_getElem? (i := 2399) (by rfl))
set_option maxRecDepth 100000 in
theorem kx_2400 : (Jvm.Cond.fieldLink "CoinJudgeModel" (216 : Nat) "CoinJudgeModel" "h" "[I") ∈ lw_tbl := List.mem_append_right _ (List.mem_of_getElem? (i := 2400) (by rfl))
set_option maxRecDepth 100000 in
theorem kx_2401 : (Jvm.Cond.fieldLink "CoinJudgeModel" (219 : Nat) "CoinJudgeModel" "u1" "[I") ∈ lw_tbl := List.mem_append_right _ (List.mem_of_getElem? (i := 2401) (by rfl))
set_option maxRecDepth 100000 in
theorem kx_2402 : (Jvm.Cond.fieldLink "CoinJudgeModel" (222 : Nat) "CoinJudgeModel" "u2" "[I") ∈ lw_tbl := List.mem_append_right _ (List.mem_of_getElem? (i := 2402) (by rfl))
set_option maxRecDepth 100000 in
theorem kx_2403 : (Jvm.Cond.fieldLink "CoinJudgeModel" (213 : Nat) "CoinJudgeModel" "message" "[B") ∈ lw_tbl := List.mem_append_right _ (List.mem_of_getElem? (i := 2403) (by rfl))
set_option maxRecDepth 100000 in
theorem kx_2760 : (Jvm.Cond.code ({ cls := "CoinJudgeModel", name := "toBytes", desc := "([I[BI)V" } : Jvm.MethodName) prog_14_method_2_code (4 : Nat) (Option.none : Option Jvm.ClassFile.FieldType)) ∈ lw_tbl := List.mem_append_right _ (List.mem_of_getElem? (i := 2760) (by rfl))
theorem kxp_50 : Cond.selects "CoinJudgeModel" ({ cls := "CoinJudgeModel", name := "fraction", desc := "(IZ)I" } : MethodName) ({ cls := "CoinJudgeModel", name := "fraction", desc := "(IZ)I" } : MethodName) ∈ lw_tbl := List.mem_append_left _ (List.mem_of_getElem? (i := 50) (by decide +kernel))
theorem kxp_51 : Cond.selects "CoinJudgeModel" ({ cls := "CoinJudgeModel", name := "times", desc := "([JI[J)V" } : MethodName) ({ cls := "CoinJudgeModel", name := "times", desc := "([JI[J)V" } : MethodName) ∈ lw_tbl := List.mem_append_left _ (List.mem_of_getElem? (i := 51) (by decide +kernel))
theorem kxp_106 : Cond.selects "CoinJudgeModel" ({ cls := "CoinJudgeModel", name := "isDer", desc := "([BI)Z" } : MethodName) ({ cls := "CoinJudgeModel", name := "isDer", desc := "([BI)Z" } : MethodName) ∈ lw_tbl := List.mem_append_left _ (List.mem_of_getElem? (i := 106) (by decide +kernel))
theorem kxp_112 : Cond.selects "CoinJudgeModel" ({ cls := "CoinJudgeModel", name := "isRight", desc := "([B[BI)Z" } : MethodName) ({ cls := "CoinJudgeModel", name := "isRight", desc := "([B[BI)Z" } : MethodName) ∈ lw_tbl := List.mem_append_left _ (List.mem_of_getElem? (i := 112) (by decide +kernel))
theorem kxp_113 : Cond.selects "CoinJudgeModel" ({ cls := "CoinJudgeModel", name := "readKey", desc := "([BI)Z" } : MethodName) ({ cls := "CoinJudgeModel", name := "readKey", desc := "([BI)Z" } : MethodName) ∈ lw_tbl := List.mem_append_left _ (List.mem_of_getElem? (i := 113) (by decide +kernel))
theorem kxp_114 : Cond.selects "CoinJudgeModel" ({ cls := "CoinJudgeModel", name := "part", desc := "([BII[I)Z" } : MethodName) ({ cls := "CoinJudgeModel", name := "part", desc := "([BII[I)Z" } : MethodName) ∈ lw_tbl := List.mem_append_left _ (List.mem_of_getElem? (i := 114) (by decide +kernel))
theorem kxp_115 : Cond.selects "CoinJudgeModel" ({ cls := "CoinJudgeModel", name := "times", desc := "([ILCoinJudgeModel$Point;LCoinJudgeModel$Point;)V" } : MethodName) ({ cls := "CoinJudgeModel", name := "times", desc := "([ILCoinJudgeModel$Point;LCoinJudgeModel$Point;)V" } : MethodName) ∈ lw_tbl := List.mem_append_left _ (List.mem_of_getElem? (i := 115) (by decide +kernel))
theorem kxp_116 : Cond.selects "CoinJudgeModel" ({ cls := "CoinJudgeModel", name := "doubled", desc := "(LCoinJudgeModel$Point;)V" } : MethodName) ({ cls := "CoinJudgeModel", name := "doubled", desc := "(LCoinJudgeModel$Point;)V" } : MethodName) ∈ lw_tbl := List.mem_append_left _ (List.mem_of_getElem? (i := 116) (by decide +kernel))
theorem kxp_117 : Cond.selects "CoinJudgeModel" ({ cls := "CoinJudgeModel", name := "plus", desc := "(LCoinJudgeModel$Point;LCoinJudgeModel$Point;)V" } : MethodName) ({ cls := "CoinJudgeModel", name := "plus", desc := "(LCoinJudgeModel$Point;LCoinJudgeModel$Point;)V" } : MethodName) ∈ lw_tbl := List.mem_append_left _ (List.mem_of_getElem? (i := 117) (by decide +kernel))
theorem kxp_118 : Cond.selects "CoinJudgeModel" ({ cls := "CoinJudgeModel", name := "flat", desc := "(LCoinJudgeModel$Point;[I[I)V" } : MethodName) ({ cls := "CoinJudgeModel", name := "flat", desc := "(LCoinJudgeModel$Point;[I[I)V" } : MethodName) ∈ lw_tbl := List.mem_append_left _ (List.mem_of_getElem? (i := 118) (by decide +kernel))

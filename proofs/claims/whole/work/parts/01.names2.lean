def tdX0_init_t0 : List (Nat × Instr × Nat) := [(0, .aload_n 0, 1), (1, .invokespecial 3, 3), (4, .aload_n 0, 1), (5, .new 9, 3), (8, .dup, 1), (9, .invokespecial 11, 3), (12, .putfield 12, 3), (15, .aload_n 0, 1), (16, .bipush 40, 2), (18, .newarray .double, 2), (20, .putfield 18, 3), (23, .aload_n 0, 1), (24, .aload_n 1, 1), (25, .putfield 22, 3), (28, .return_, 1)]
theorem tdX0_init_t0_ok : gz_dec cX0_init tdX0_init_t0 = true := by decide +kernel
theorem dX0_init_0 : decode cX0_init 0 = .ok (.aload_n 0, 1) := gz_d tdX0_init_t0_ok 0 rfl
theorem dX0_init_1 : decode cX0_init 1 = .ok (.invokespecial 3, 3) := gz_d tdX0_init_t0_ok 1 rfl
theorem dX0_init_4 : decode cX0_init 4 = .ok (.aload_n 0, 1) := gz_d tdX0_init_t0_ok 2 rfl
theorem dX0_init_5 : decode cX0_init 5 = .ok (.new 9, 3) := gz_d tdX0_init_t0_ok 3 rfl
theorem dX0_init_8 : decode cX0_init 8 = .ok (.dup, 1) := gz_d tdX0_init_t0_ok 4 rfl
theorem dX0_init_9 : decode cX0_init 9 = .ok (.invokespecial 11, 3) := gz_d tdX0_init_t0_ok 5 rfl
theorem dX0_init_12 : decode cX0_init 12 = .ok (.putfield 12, 3) := gz_d tdX0_init_t0_ok 6 rfl
theorem dX0_init_15 : decode cX0_init 15 = .ok (.aload_n 0, 1) := gz_d tdX0_init_t0_ok 7 rfl
theorem dX0_init_16 : decode cX0_init 16 = .ok (.bipush 40, 2) := gz_d tdX0_init_t0_ok 8 rfl
theorem dX0_init_18 : decode cX0_init 18 = .ok (.newarray .double, 2) := gz_d tdX0_init_t0_ok 9 rfl
theorem dX0_init_20 : decode cX0_init 20 = .ok (.putfield 18, 3) := gz_d tdX0_init_t0_ok 10 rfl
theorem dX0_init_23 : decode cX0_init 23 = .ok (.aload_n 0, 1) := gz_d tdX0_init_t0_ok 11 rfl
theorem dX0_init_24 : decode cX0_init 24 = .ok (.aload_n 1, 1) := gz_d tdX0_init_t0_ok 12 rfl
theorem dX0_init_25 : decode cX0_init 25 = .ok (.putfield 22, 3) := gz_d tdX0_init_t0_ok 13 rfl
theorem dX0_init_28 : decode cX0_init 28 = .ok (.return_, 1) := gz_d tdX0_init_t0_ok 14 rfl
def tdX0_study_t0 : List (Nat × Instr × Nat) := [(0, .aload_n 0, 1), (1, .iload_n 3, 1), (2, .putfield 26, 3), (5, .aload_n 0, 1), (6, .getfield 12, 3), (9, .aload_n 1, 1), (10, .iload_n 2, 1), (11, .aload_n 0, 1), (12, .invokevirtual 30, 3), (15, .aload_n 0, 1), (16, .getfield 22, 3), (19, .getfield 34, 3), (22, .invokevirtual 39, 3), (25, .return_, 1)]
theorem tdX0_study_t0_ok : gz_dec cX0_study tdX0_study_t0 = true := by decide +kernel
theorem dX0_study_0 : decode cX0_study 0 = .ok (.aload_n 0, 1) := gz_d tdX0_study_t0_ok 0 rfl
theorem dX0_study_1 : decode cX0_study 1 = .ok (.iload_n 3, 1) := gz_d tdX0_study_t0_ok 1 rfl
theorem dX0_study_2 : decode cX0_study 2 = .ok (.putfield 26, 3) := gz_d tdX0_study_t0_ok 2 rfl
theorem dX0_study_5 : decode cX0_study 5 = .ok (.aload_n 0, 1) := gz_d tdX0_study_t0_ok 3 rfl
theorem dX0_study_6 : decode cX0_study 6 = .ok (.getfield 12, 3) := gz_d tdX0_study_t0_ok 4 rfl
theorem dX0_study_9 : decode cX0_study 9 = .ok (.aload_n 1, 1) := gz_d tdX0_study_t0_ok 5 rfl
theorem dX0_study_10 : decode cX0_study 10 = .ok (.iload_n 2, 1) := gz_d tdX0_study_t0_ok 6 rfl
theorem dX0_study_11 : decode cX0_study 11 = .ok (.aload_n 0, 1) := gz_d tdX0_study_t0_ok 7 rfl
theorem dX0_study_12 : decode cX0_study 12 = .ok (.invokevirtual 30, 3) := gz_d tdX0_study_t0_ok 8 rfl
theorem dX0_study_15 : decode cX0_study 15 = .ok (.aload_n 0, 1) := gz_d tdX0_study_t0_ok 9 rfl
theorem dX0_study_16 : decode cX0_study 16 = .ok (.getfield 22, 3) := gz_d tdX0_study_t0_ok 10 rfl
theorem dX0_study_19 : decode cX0_study 19 = .ok (.getfield 34, 3) := gz_d tdX0_study_t0_ok 11 rfl
theorem dX0_study_22 : decode cX0_study 22 = .ok (.invokevirtual 39, 3) := gz_d tdX0_study_t0_ok 12 rfl
theorem dX0_study_25 : decode cX0_study 25 = .ok (.return_, 1) := gz_d tdX0_study_t0_ok 13 rfl
def tdX0_winnings_t0 : List (Nat × Instr × Nat) := [(0, .aload_n 0, 1), (1, .getfield 22, 3), (4, .aload_n 0, 1), (5, .getfield 26, 3), (8, .invokevirtual 43, 3), (11, .astore_n 1, 1), (12, .dconst 0, 1), (13, .dstore_n 2, 1), (14, .iconst 0, 1), (15, .istore 4, 2), (17, .iload 4, 2), (19, .aload_n 1, 1), (20, .getfield 47, 3), (23, .if_icmp .ge 34, 3), (26, .aload_n 0, 1), (27, .iload 4, 2), (29, .invokevirtual 52, 3), (32, .dload_n 2, 1), (33, .aload_n 1, 1), (34, .iload 4, 2), (36, .invokevirtual 56, 3), (39, .i2d, 1), (40, .aload_n 0, 1), (41, .iconst (-1), 1), (42, .iconst 0, 1), (43, .iconst 0, 1), (44, .iconst 0, 1), (45, .invokevirtual 60, 3), (48, .dmul, 1), (49, .dadd, 1), (50, .dstore_n 2, 1), (51, .iinc 4 1, 3), (54, .goto (-37), 3), (57, .aload_n 0, 1), (58, .getfield 22, 3), (61, .dload_n 2, 1), (62, .invokevirtual 64, 3), (65, .dreturn, 1)]
theorem tdX0_winnings_t0_ok : gz_dec cX0_winnings tdX0_winnings_t0 = true := by decide +kernel
theorem dX0_winnings_0 : decode cX0_winnings 0 = .ok (.aload_n 0, 1) := gz_d tdX0_winnings_t0_ok 0 rfl
theorem dX0_winnings_1 : decode cX0_winnings 1 = .ok (.getfield 22, 3) := gz_d tdX0_winnings_t0_ok 1 rfl
theorem dX0_winnings_4 : decode cX0_winnings 4 = .ok (.aload_n 0, 1) := gz_d tdX0_winnings_t0_ok 2 rfl
theorem dX0_winnings_5 : decode cX0_winnings 5 = .ok (.getfield 26, 3) := gz_d tdX0_winnings_t0_ok 3 rfl
theorem dX0_winnings_8 : decode cX0_winnings 8 = .ok (.invokevirtual 43, 3) := gz_d tdX0_winnings_t0_ok 4 rfl
theorem dX0_winnings_11 : decode cX0_winnings 11 = .ok (.astore_n 1, 1) := gz_d tdX0_winnings_t0_ok 5 rfl
theorem dX0_winnings_12 : decode cX0_winnings 12 = .ok (.dconst 0, 1) := gz_d tdX0_winnings_t0_ok 6 rfl
theorem dX0_winnings_13 : decode cX0_winnings 13 = .ok (.dstore_n 2, 1) := gz_d tdX0_winnings_t0_ok 7 rfl
theorem dX0_winnings_14 : decode cX0_winnings 14 = .ok (.iconst 0, 1) := gz_d tdX0_winnings_t0_ok 8 rfl
theorem dX0_winnings_15 : decode cX0_winnings 15 = .ok (.istore 4, 2) := gz_d tdX0_winnings_t0_ok 9 rfl
theorem dX0_winnings_17 : decode cX0_winnings 17 = .ok (.iload 4, 2) := gz_d tdX0_winnings_t0_ok 10 rfl
theorem dX0_winnings_19 : decode cX0_winnings 19 = .ok (.aload_n 1, 1) := gz_d tdX0_winnings_t0_ok 11 rfl
theorem dX0_winnings_20 : decode cX0_winnings 20 = .ok (.getfield 47, 3) := gz_d tdX0_winnings_t0_ok 12 rfl
theorem dX0_winnings_23 : decode cX0_winnings 23 = .ok (.if_icmp .ge 34, 3) := gz_d tdX0_winnings_t0_ok 13 rfl
theorem dX0_winnings_26 : decode cX0_winnings 26 = .ok (.aload_n 0, 1) := gz_d tdX0_winnings_t0_ok 14 rfl
theorem dX0_winnings_27 : decode cX0_winnings 27 = .ok (.iload 4, 2) := gz_d tdX0_winnings_t0_ok 15 rfl
theorem dX0_winnings_29 : decode cX0_winnings 29 = .ok (.invokevirtual 52, 3) := gz_d tdX0_winnings_t0_ok 16 rfl
theorem dX0_winnings_32 : decode cX0_winnings 32 = .ok (.dload_n 2, 1) := gz_d tdX0_winnings_t0_ok 17 rfl
theorem dX0_winnings_33 : decode cX0_winnings 33 = .ok (.aload_n 1, 1) := gz_d tdX0_winnings_t0_ok 18 rfl
theorem dX0_winnings_34 : decode cX0_winnings 34 = .ok (.iload 4, 2) := gz_d tdX0_winnings_t0_ok 19 rfl
theorem dX0_winnings_36 : decode cX0_winnings 36 = .ok (.invokevirtual 56, 3) := gz_d tdX0_winnings_t0_ok 20 rfl
theorem dX0_winnings_39 : decode cX0_winnings 39 = .ok (.i2d, 1) := gz_d tdX0_winnings_t0_ok 21 rfl
theorem dX0_winnings_40 : decode cX0_winnings 40 = .ok (.aload_n 0, 1) := gz_d tdX0_winnings_t0_ok 22 rfl
theorem dX0_winnings_41 : decode cX0_winnings 41 = .ok (.iconst (-1), 1) := gz_d tdX0_winnings_t0_ok 23 rfl
theorem dX0_winnings_42 : decode cX0_winnings 42 = .ok (.iconst 0, 1) := gz_d tdX0_winnings_t0_ok 24 rfl
theorem dX0_winnings_43 : decode cX0_winnings 43 = .ok (.iconst 0, 1) := gz_d tdX0_winnings_t0_ok 25 rfl
theorem dX0_winnings_44 : decode cX0_winnings 44 = .ok (.iconst 0, 1) := gz_d tdX0_winnings_t0_ok 26 rfl
theorem dX0_winnings_45 : decode cX0_winnings 45 = .ok (.invokevirtual 60, 3) := gz_d tdX0_winnings_t0_ok 27 rfl
theorem dX0_winnings_48 : decode cX0_winnings 48 = .ok (.dmul, 1) := gz_d tdX0_winnings_t0_ok 28 rfl
theorem dX0_winnings_49 : decode cX0_winnings 49 = .ok (.dadd, 1) := gz_d tdX0_winnings_t0_ok 29 rfl
theorem dX0_winnings_50 : decode cX0_winnings 50 = .ok (.dstore_n 2, 1) := gz_d tdX0_winnings_t0_ok 30 rfl
theorem dX0_winnings_51 : decode cX0_winnings 51 = .ok (.iinc 4 1, 3) := gz_d tdX0_winnings_t0_ok 31 rfl
theorem dX0_winnings_54 : decode cX0_winnings 54 = .ok (.goto (-37), 3) := gz_d tdX0_winnings_t0_ok 32 rfl
theorem dX0_winnings_57 : decode cX0_winnings 57 = .ok (.aload_n 0, 1) := gz_d tdX0_winnings_t0_ok 33 rfl
theorem dX0_winnings_58 : decode cX0_winnings 58 = .ok (.getfield 22, 3) := gz_d tdX0_winnings_t0_ok 34 rfl
theorem dX0_winnings_61 : decode cX0_winnings 61 = .ok (.dload_n 2, 1) := gz_d tdX0_winnings_t0_ok 35 rfl
theorem dX0_winnings_62 : decode cX0_winnings 62 = .ok (.invokevirtual 64, 3) := gz_d tdX0_winnings_t0_ok 36 rfl
theorem dX0_winnings_65 : decode cX0_winnings 65 = .ok (.dreturn, 1) := gz_d tdX0_winnings_t0_ok 37 rfl
def tdX0_firstMove_t0 : List (Nat × Instr × Nat) := [(0, .aload_n 0, 1), (1, .iload_n 1, 1), (2, .invokevirtual 52, 3), (5, .aload_n 0, 1), (6, .iconst (-1), 1), (7, .iconst 0, 1), (8, .iconst 0, 1), (9, .iconst 0, 1), (10, .invokevirtual 60, 3), (13, .pop2, 1), (14, .aload_n 0, 1), (15, .getfield 68, 3), (18, .ireturn, 1)]
theorem tdX0_firstMove_t0_ok : gz_dec cX0_firstMove tdX0_firstMove_t0 = true := by decide +kernel
theorem dX0_firstMove_0 : decode cX0_firstMove 0 = .ok (.aload_n 0, 1) := gz_d tdX0_firstMove_t0_ok 0 rfl
theorem dX0_firstMove_1 : decode cX0_firstMove 1 = .ok (.iload_n 1, 1) := gz_d tdX0_firstMove_t0_ok 1 rfl
theorem dX0_firstMove_2 : decode cX0_firstMove 2 = .ok (.invokevirtual 52, 3) := gz_d tdX0_firstMove_t0_ok 2 rfl
theorem dX0_firstMove_5 : decode cX0_firstMove 5 = .ok (.aload_n 0, 1) := gz_d tdX0_firstMove_t0_ok 3 rfl
theorem dX0_firstMove_6 : decode cX0_firstMove 6 = .ok (.iconst (-1), 1) := gz_d tdX0_firstMove_t0_ok 4 rfl
theorem dX0_firstMove_7 : decode cX0_firstMove 7 = .ok (.iconst 0, 1) := gz_d tdX0_firstMove_t0_ok 5 rfl
theorem dX0_firstMove_8 : decode cX0_firstMove 8 = .ok (.iconst 0, 1) := gz_d tdX0_firstMove_t0_ok 6 rfl
theorem dX0_firstMove_9 : decode cX0_firstMove 9 = .ok (.iconst 0, 1) := gz_d tdX0_firstMove_t0_ok 7 rfl
theorem dX0_firstMove_10 : decode cX0_firstMove 10 = .ok (.invokevirtual 60, 3) := gz_d tdX0_firstMove_t0_ok 8 rfl
theorem dX0_firstMove_13 : decode cX0_firstMove 13 = .ok (.pop2, 1) := gz_d tdX0_firstMove_t0_ok 9 rfl
theorem dX0_firstMove_14 : decode cX0_firstMove 14 = .ok (.aload_n 0, 1) := gz_d tdX0_firstMove_t0_ok 10 rfl
theorem dX0_firstMove_15 : decode cX0_firstMove 15 = .ok (.getfield 68, 3) := gz_d tdX0_firstMove_t0_ok 11 rfl
theorem dX0_firstMove_18 : decode cX0_firstMove 18 = .ok (.ireturn, 1) := gz_d tdX0_firstMove_t0_ok 12 rfl
def tdX0_moveBehind_t0 : List (Nat × Instr × Nat) := [(0, .aload_n 0, 1), (1, .iload_n 1, 1), (2, .invokevirtual 52, 3), (5, .aload_n 0, 1), (6, .iconst (-1), 1), (7, .iload_n 2, 1), (8, .iconst 0, 1), (9, .invokevirtual 71, 3), (12, .ifCond .ne 5, 3), (15, .iconst (-1), 1), (16, .ireturn, 1), (17, .aload_n 0, 1), (18, .iload_n 2, 1), (19, .iconst 1, 1), (20, .iconst 1, 1), (21, .iconst 1, 1), (22, .invokevirtual 60, 3), (25, .pop2, 1), (26, .aload_n 0, 1), (27, .getfield 68, 3), (30, .ireturn, 1)]
theorem tdX0_moveBehind_t0_ok : gz_dec cX0_moveBehind tdX0_moveBehind_t0 = true := by decide +kernel
theorem dX0_moveBehind_0 : decode cX0_moveBehind 0 = .ok (.aload_n 0, 1) := gz_d tdX0_moveBehind_t0_ok 0 rfl
theorem dX0_moveBehind_1 : decode cX0_moveBehind 1 = .ok (.iload_n 1, 1) := gz_d tdX0_moveBehind_t0_ok 1 rfl
theorem dX0_moveBehind_2 : decode cX0_moveBehind 2 = .ok (.invokevirtual 52, 3) := gz_d tdX0_moveBehind_t0_ok 2 rfl
theorem dX0_moveBehind_5 : decode cX0_moveBehind 5 = .ok (.aload_n 0, 1) := gz_d tdX0_moveBehind_t0_ok 3 rfl
theorem dX0_moveBehind_6 : decode cX0_moveBehind 6 = .ok (.iconst (-1), 1) := gz_d tdX0_moveBehind_t0_ok 4 rfl
theorem dX0_moveBehind_7 : decode cX0_moveBehind 7 = .ok (.iload_n 2, 1) := gz_d tdX0_moveBehind_t0_ok 5 rfl
theorem dX0_moveBehind_8 : decode cX0_moveBehind 8 = .ok (.iconst 0, 1) := gz_d tdX0_moveBehind_t0_ok 6 rfl
theorem dX0_moveBehind_9 : decode cX0_moveBehind 9 = .ok (.invokevirtual 71, 3) := gz_d tdX0_moveBehind_t0_ok 7 rfl
theorem dX0_moveBehind_12 : decode cX0_moveBehind 12 = .ok (.ifCond .ne 5, 3) := gz_d tdX0_moveBehind_t0_ok 8 rfl
theorem dX0_moveBehind_15 : decode cX0_moveBehind 15 = .ok (.iconst (-1), 1) := gz_d tdX0_moveBehind_t0_ok 9 rfl
theorem dX0_moveBehind_16 : decode cX0_moveBehind 16 = .ok (.ireturn, 1) := gz_d tdX0_moveBehind_t0_ok 10 rfl
theorem dX0_moveBehind_17 : decode cX0_moveBehind 17 = .ok (.aload_n 0, 1) := gz_d tdX0_moveBehind_t0_ok 11 rfl
theorem dX0_moveBehind_18 : decode cX0_moveBehind 18 = .ok (.iload_n 2, 1) := gz_d tdX0_moveBehind_t0_ok 12 rfl
theorem dX0_moveBehind_19 : decode cX0_moveBehind 19 = .ok (.iconst 1, 1) := gz_d tdX0_moveBehind_t0_ok 13 rfl
theorem dX0_moveBehind_20 : decode cX0_moveBehind 20 = .ok (.iconst 1, 1) := gz_d tdX0_moveBehind_t0_ok 14 rfl
theorem dX0_moveBehind_21 : decode cX0_moveBehind 21 = .ok (.iconst 1, 1) := gz_d tdX0_moveBehind_t0_ok 15 rfl
theorem dX0_moveBehind_22 : decode cX0_moveBehind 22 = .ok (.invokevirtual 60, 3) := gz_d tdX0_moveBehind_t0_ok 16 rfl
theorem dX0_moveBehind_25 : decode cX0_moveBehind 25 = .ok (.pop2, 1) := gz_d tdX0_moveBehind_t0_ok 17 rfl
theorem dX0_moveBehind_26 : decode cX0_moveBehind 26 = .ok (.aload_n 0, 1) := gz_d tdX0_moveBehind_t0_ok 18 rfl
theorem dX0_moveBehind_27 : decode cX0_moveBehind 27 = .ok (.getfield 68, 3) := gz_d tdX0_moveBehind_t0_ok 19 rfl
theorem dX0_moveBehind_30 : decode cX0_moveBehind 30 = .ok (.ireturn, 1) := gz_d tdX0_moveBehind_t0_ok 20 rfl
def tdX0_other_t0 : List (Nat × Instr × Nat) := [(0, .aload_n 0, 1), (1, .getfield 22, 3), (4, .iconst 1, 1), (5, .aload_n 0, 1), (6, .getfield 26, 3), (9, .isub, 1), (10, .invokevirtual 43, 3), (13, .areturn, 1)]
theorem tdX0_other_t0_ok : gz_dec cX0_other tdX0_other_t0 = true := by decide +kernel
theorem dX0_other_0 : decode cX0_other 0 = .ok (.aload_n 0, 1) := gz_d tdX0_other_t0_ok 0 rfl
theorem dX0_other_1 : decode cX0_other 1 = .ok (.getfield 22, 3) := gz_d tdX0_other_t0_ok 1 rfl
theorem dX0_other_4 : decode cX0_other 4 = .ok (.iconst 1, 1) := gz_d tdX0_other_t0_ok 2 rfl
theorem dX0_other_5 : decode cX0_other 5 = .ok (.aload_n 0, 1) := gz_d tdX0_other_t0_ok 3 rfl
theorem dX0_other_6 : decode cX0_other 6 = .ok (.getfield 26, 3) := gz_d tdX0_other_t0_ok 4 rfl
theorem dX0_other_9 : decode cX0_other 9 = .ok (.isub, 1) := gz_d tdX0_other_t0_ok 5 rfl
theorem dX0_other_10 : decode cX0_other 10 = .ok (.invokevirtual 43, 3) := gz_d tdX0_other_t0_ok 6 rfl
theorem dX0_other_13 : decode cX0_other 13 = .ok (.areturn, 1) := gz_d tdX0_other_t0_ok 7 rfl
def tdX0_hold_t0 : List (Nat × Instr × Nat) := [(0, .aload_n 0, 1), (1, .iload_n 1, 1), (2, .putfield 75, 3), (5, .aload_n 0, 1), (6, .iconst (-1), 1), (7, .putfield 68, 3), (10, .aload_n 0, 1), (11, .invokevirtual 30, 3), (14, .astore_n 2, 1), (15, .iconst 0, 1), (16, .istore_n 3, 1), (17, .iload_n 3, 1), (18, .aload_n 2, 1), (19, .getfield 47, 3), (22, .if_icmp .ge 23, 3), (25, .aload_n 0, 1), (26, .getfield 18, 3), (29, .iload_n 3, 1), (30, .aload_n 2, 1), (31, .iload_n 3, 1), (32, .invokevirtual 56, 3), (35, .i2d, 1), (36, .invokestatic 78, 3), (39, .iinc 3 1, 3), (42, .goto (-25), 3), (45, .return_, 1)]
theorem tdX0_hold_t0_ok : gz_dec cX0_hold tdX0_hold_t0 = true := by decide +kernel
theorem dX0_hold_0 : decode cX0_hold 0 = .ok (.aload_n 0, 1) := gz_d tdX0_hold_t0_ok 0 rfl
theorem dX0_hold_1 : decode cX0_hold 1 = .ok (.iload_n 1, 1) := gz_d tdX0_hold_t0_ok 1 rfl
theorem dX0_hold_2 : decode cX0_hold 2 = .ok (.putfield 75, 3) := gz_d tdX0_hold_t0_ok 2 rfl
theorem dX0_hold_5 : decode cX0_hold 5 = .ok (.aload_n 0, 1) := gz_d tdX0_hold_t0_ok 3 rfl
theorem dX0_hold_6 : decode cX0_hold 6 = .ok (.iconst (-1), 1) := gz_d tdX0_hold_t0_ok 4 rfl
theorem dX0_hold_7 : decode cX0_hold 7 = .ok (.putfield 68, 3) := gz_d tdX0_hold_t0_ok 5 rfl
theorem dX0_hold_10 : decode cX0_hold 10 = .ok (.aload_n 0, 1) := gz_d tdX0_hold_t0_ok 6 rfl
theorem dX0_hold_11 : decode cX0_hold 11 = .ok (.invokevirtual 30, 3) := gz_d tdX0_hold_t0_ok 7 rfl
theorem dX0_hold_14 : decode cX0_hold 14 = .ok (.astore_n 2, 1) := gz_d tdX0_hold_t0_ok 8 rfl
theorem dX0_hold_15 : decode cX0_hold 15 = .ok (.iconst 0, 1) := gz_d tdX0_hold_t0_ok 9 rfl
theorem dX0_hold_16 : decode cX0_hold 16 = .ok (.istore_n 3, 1) := gz_d tdX0_hold_t0_ok 10 rfl
theorem dX0_hold_17 : decode cX0_hold 17 = .ok (.iload_n 3, 1) := gz_d tdX0_hold_t0_ok 11 rfl
theorem dX0_hold_18 : decode cX0_hold 18 = .ok (.aload_n 2, 1) := gz_d tdX0_hold_t0_ok 12 rfl
theorem dX0_hold_19 : decode cX0_hold 19 = .ok (.getfield 47, 3) := gz_d tdX0_hold_t0_ok 13 rfl
theorem dX0_hold_22 : decode cX0_hold 22 = .ok (.if_icmp .ge 23, 3) := gz_d tdX0_hold_t0_ok 14 rfl
theorem dX0_hold_25 : decode cX0_hold 25 = .ok (.aload_n 0, 1) := gz_d tdX0_hold_t0_ok 15 rfl
theorem dX0_hold_26 : decode cX0_hold 26 = .ok (.getfield 18, 3) := gz_d tdX0_hold_t0_ok 16 rfl
theorem dX0_hold_29 : decode cX0_hold 29 = .ok (.iload_n 3, 1) := gz_d tdX0_hold_t0_ok 17 rfl
theorem dX0_hold_30 : decode cX0_hold 30 = .ok (.aload_n 2, 1) := gz_d tdX0_hold_t0_ok 18 rfl
theorem dX0_hold_31 : decode cX0_hold 31 = .ok (.iload_n 3, 1) := gz_d tdX0_hold_t0_ok 19 rfl
theorem dX0_hold_32 : decode cX0_hold 32 = .ok (.invokevirtual 56, 3) := gz_d tdX0_hold_t0_ok 20 rfl
theorem dX0_hold_35 : decode cX0_hold 35 = .ok (.i2d, 1) := gz_d tdX0_hold_t0_ok 21 rfl
theorem dX0_hold_36 : decode cX0_hold 36 = .ok (.invokestatic 78, 3) := gz_d tdX0_hold_t0_ok 22 rfl
theorem dX0_hold_39 : decode cX0_hold 39 = .ok (.iinc 3 1, 3) := gz_d tdX0_hold_t0_ok 23 rfl
theorem dX0_hold_42 : decode cX0_hold 42 = .ok (.goto (-25), 3) := gz_d tdX0_hold_t0_ok 24 rfl
theorem dX0_hold_45 : decode cX0_hold 45 = .ok (.return_, 1) := gz_d tdX0_hold_t0_ok 25 rfl
def tdX0_value_t0 : List (Nat × Instr × Nat) := [(0, .iload 4, 2), (2, .bipush 8, 2), (4, .if_icmp .le 5, 3), (7, .dconst 0, 1), (8, .dreturn, 1), (9, .iload_n 2, 1), (10, .aload_n 0, 1), (11, .getfield 26, 3), (14, .if_icmp .ne 14, 3), (17, .aload_n 0, 1), (18, .iload_n 1, 1), (19, .iload_n 3, 1), (20, .iload 4, 2), (22, .invokevirtual 82, 3), (25, .goto 11, 3), (28, .aload_n 0, 1), (29, .iload_n 1, 1), (30, .iload_n 3, 1), (31, .iload 4, 2), (33, .invokevirtual 86, 3), (36, .dreturn, 1)]
theorem tdX0_value_t0_ok : gz_dec cX0_value tdX0_value_t0 = true := by decide +kernel
theorem dX0_value_0 : decode cX0_value 0 = .ok (.iload 4, 2) := gz_d tdX0_value_t0_ok 0 rfl
theorem dX0_value_2 : decode cX0_value 2 = .ok (.bipush 8, 2) := gz_d tdX0_value_t0_ok 1 rfl
theorem dX0_value_4 : decode cX0_value 4 = .ok (.if_icmp .le 5, 3) := gz_d tdX0_value_t0_ok 2 rfl
theorem dX0_value_7 : decode cX0_value 7 = .ok (.dconst 0, 1) := gz_d tdX0_value_t0_ok 3 rfl
theorem dX0_value_8 : decode cX0_value 8 = .ok (.dreturn, 1) := gz_d tdX0_value_t0_ok 4 rfl
theorem dX0_value_9 : decode cX0_value 9 = .ok (.iload_n 2, 1) := gz_d tdX0_value_t0_ok 5 rfl
theorem dX0_value_10 : decode cX0_value 10 = .ok (.aload_n 0, 1) := gz_d tdX0_value_t0_ok 6 rfl
theorem dX0_value_11 : decode cX0_value 11 = .ok (.getfield 26, 3) := gz_d tdX0_value_t0_ok 7 rfl
theorem dX0_value_14 : decode cX0_value 14 = .ok (.if_icmp .ne 14, 3) := gz_d tdX0_value_t0_ok 8 rfl
theorem dX0_value_17 : decode cX0_value 17 = .ok (.aload_n 0, 1) := gz_d tdX0_value_t0_ok 9 rfl
theorem dX0_value_18 : decode cX0_value 18 = .ok (.iload_n 1, 1) := gz_d tdX0_value_t0_ok 10 rfl
theorem dX0_value_19 : decode cX0_value 19 = .ok (.iload_n 3, 1) := gz_d tdX0_value_t0_ok 11 rfl
theorem dX0_value_20 : decode cX0_value 20 = .ok (.iload 4, 2) := gz_d tdX0_value_t0_ok 12 rfl
theorem dX0_value_22 : decode cX0_value 22 = .ok (.invokevirtual 82, 3) := gz_d tdX0_value_t0_ok 13 rfl
theorem dX0_value_25 : decode cX0_value 25 = .ok (.goto 11, 3) := gz_d tdX0_value_t0_ok 14 rfl
theorem dX0_value_28 : decode cX0_value 28 = .ok (.aload_n 0, 1) := gz_d tdX0_value_t0_ok 15 rfl
theorem dX0_value_29 : decode cX0_value 29 = .ok (.iload_n 1, 1) := gz_d tdX0_value_t0_ok 16 rfl
theorem dX0_value_30 : decode cX0_value 30 = .ok (.iload_n 3, 1) := gz_d tdX0_value_t0_ok 17 rfl
theorem dX0_value_31 : decode cX0_value 31 = .ok (.iload 4, 2) := gz_d tdX0_value_t0_ok 18 rfl
theorem dX0_value_33 : decode cX0_value 33 = .ok (.invokevirtual 86, 3) := gz_d tdX0_value_t0_ok 19 rfl
theorem dX0_value_36 : decode cX0_value 36 = .ok (.dreturn, 1) := gz_d tdX0_value_t0_ok 20 rfl
def tdX0_ownValue_t0 : List (Nat × Instr × Nat) := [(0, .iload_n 1, 1), (1, .iconst (-1), 1), (2, .if_icmp .ne 7, 3), (5, .iconst 0, 1), (6, .goto 4, 3), (9, .iconst (-1), 1), (10, .istore 4, 2), (12, .dconst 0, 1), (13, .dstore 5, 2), (15, .iload 4, 2), (17, .iconst (-1), 1), (18, .if_icmp .ne 19, 3), (21, .aload_n 0, 1), (22, .dconst 0, 1), (23, .aload_n 0, 1), (24, .getfield 26, 3), (27, .iload_n 1, 1), (28, .iload_n 2, 1), (29, .invokevirtual 89, 3), (32, .dstore 5, 2), (34, .goto 20, 3), (37, .aload_n 0, 1), (38, .iconst 0, 1), (39, .iconst 1, 1), (40, .aload_n 0, 1), (41, .getfield 26, 3), (44, .isub, 1), (45, .iload_n 2, 1), (46, .iload_n 3, 1), (47, .iconst 1, 1), (48, .iadd, 1), (49, .invokevirtual 60, 3), (52, .dstore 5, 2), (54, .iload_n 1, 1), (55, .iconst (-1), 1), (56, .if_icmp .ne 7, 3), (59, .iconst 1, 1), (60, .goto 6, 3), (63, .iload_n 1, 1), (64, .iconst 1, 1), (65, .iadd, 1), (66, .istore 7, 2), (68, .iload 7, 2), (70, .aload_n 0, 1), (71, .getfield 22, 3), (74, .getfield 34, 3), (77, .if_icmp .ge 43, 3), (80, .aload_n 0, 1), (81, .iload 7, 2), (83, .iconst 1, 1), (84, .aload_n 0, 1), (85, .getfield 26, 3), (88, .isub, 1), (89, .iload_n 2, 1), (90, .iload_n 3, 1), (91, .iconst 1, 1), (92, .iadd, 1), (93, .invokevirtual 60, 3), (96, .dstore 8, 2), (98, .dload 8, 2)]
theorem tdX0_ownValue_t0_ok : gz_dec cX0_ownValue tdX0_ownValue_t0 = true := by decide +kernel
theorem dX0_ownValue_0 : decode cX0_ownValue 0 = .ok (.iload_n 1, 1) := gz_d tdX0_ownValue_t0_ok 0 rfl
theorem dX0_ownValue_1 : decode cX0_ownValue 1 = .ok (.iconst (-1), 1) := gz_d tdX0_ownValue_t0_ok 1 rfl
theorem dX0_ownValue_2 : decode cX0_ownValue 2 = .ok (.if_icmp .ne 7, 3) := gz_d tdX0_ownValue_t0_ok 2 rfl
theorem dX0_ownValue_5 : decode cX0_ownValue 5 = .ok (.iconst 0, 1) := gz_d tdX0_ownValue_t0_ok 3 rfl
theorem dX0_ownValue_6 : decode cX0_ownValue 6 = .ok (.goto 4, 3) := gz_d tdX0_ownValue_t0_ok 4 rfl
theorem dX0_ownValue_9 : decode cX0_ownValue 9 = .ok (.iconst (-1), 1) := gz_d tdX0_ownValue_t0_ok 5 rfl
theorem dX0_ownValue_10 : decode cX0_ownValue 10 = .ok (.istore 4, 2) := gz_d tdX0_ownValue_t0_ok 6 rfl
theorem dX0_ownValue_12 : decode cX0_ownValue 12 = .ok (.dconst 0, 1) := gz_d tdX0_ownValue_t0_ok 7 rfl
theorem dX0_ownValue_13 : decode cX0_ownValue 13 = .ok (.dstore 5, 2) := gz_d tdX0_ownValue_t0_ok 8 rfl
theorem dX0_ownValue_15 : decode cX0_ownValue 15 = .ok (.iload 4, 2) := gz_d tdX0_ownValue_t0_ok 9 rfl
theorem dX0_ownValue_17 : decode cX0_ownValue 17 = .ok (.iconst (-1), 1) := gz_d tdX0_ownValue_t0_ok 10 rfl
theorem dX0_ownValue_18 : decode cX0_ownValue 18 = .ok (.if_icmp .ne 19, 3) := gz_d tdX0_ownValue_t0_ok 11 rfl
theorem dX0_ownValue_21 : decode cX0_ownValue 21 = .ok (.aload_n 0, 1) := gz_d tdX0_ownValue_t0_ok 12 rfl
theorem dX0_ownValue_22 : decode cX0_ownValue 22 = .ok (.dconst 0, 1) := gz_d tdX0_ownValue_t0_ok 13 rfl
theorem dX0_ownValue_23 : decode cX0_ownValue 23 = .ok (.aload_n 0, 1) := gz_d tdX0_ownValue_t0_ok 14 rfl
theorem dX0_ownValue_24 : decode cX0_ownValue 24 = .ok (.getfield 26, 3) := gz_d tdX0_ownValue_t0_ok 15 rfl
theorem dX0_ownValue_27 : decode cX0_ownValue 27 = .ok (.iload_n 1, 1) := gz_d tdX0_ownValue_t0_ok 16 rfl
theorem dX0_ownValue_28 : decode cX0_ownValue 28 = .ok (.iload_n 2, 1) := gz_d tdX0_ownValue_t0_ok 17 rfl
theorem dX0_ownValue_29 : decode cX0_ownValue 29 = .ok (.invokevirtual 89, 3) := gz_d tdX0_ownValue_t0_ok 18 rfl
theorem dX0_ownValue_32 : decode cX0_ownValue 32 = .ok (.dstore 5, 2) := gz_d tdX0_ownValue_t0_ok 19 rfl
theorem dX0_ownValue_34 : decode cX0_ownValue 34 = .ok (.goto 20, 3) := gz_d tdX0_ownValue_t0_ok 20 rfl
theorem dX0_ownValue_37 : decode cX0_ownValue 37 = .ok (.aload_n 0, 1) := gz_d tdX0_ownValue_t0_ok 21 rfl
theorem dX0_ownValue_38 : decode cX0_ownValue 38 = .ok (.iconst 0, 1) := gz_d tdX0_ownValue_t0_ok 22 rfl
theorem dX0_ownValue_39 : decode cX0_ownValue 39 = .ok (.iconst 1, 1) := gz_d tdX0_ownValue_t0_ok 23 rfl
theorem dX0_ownValue_40 : decode cX0_ownValue 40 = .ok (.aload_n 0, 1) := gz_d tdX0_ownValue_t0_ok 24 rfl
theorem dX0_ownValue_41 : decode cX0_ownValue 41 = .ok (.getfield 26, 3) := gz_d tdX0_ownValue_t0_ok 25 rfl
theorem dX0_ownValue_44 : decode cX0_ownValue 44 = .ok (.isub, 1) := gz_d tdX0_ownValue_t0_ok 26 rfl
theorem dX0_ownValue_45 : decode cX0_ownValue 45 = .ok (.iload_n 2, 1) := gz_d tdX0_ownValue_t0_ok 27 rfl
theorem dX0_ownValue_46 : decode cX0_ownValue 46 = .ok (.iload_n 3, 1) := gz_d tdX0_ownValue_t0_ok 28 rfl
theorem dX0_ownValue_47 : decode cX0_ownValue 47 = .ok (.iconst 1, 1) := gz_d tdX0_ownValue_t0_ok 29 rfl
theorem dX0_ownValue_48 : decode cX0_ownValue 48 = .ok (.iadd, 1) := gz_d tdX0_ownValue_t0_ok 30 rfl
theorem dX0_ownValue_49 : decode cX0_ownValue 49 = .ok (.invokevirtual 60, 3) := gz_d tdX0_ownValue_t0_ok 31 rfl
theorem dX0_ownValue_52 : decode cX0_ownValue 52 = .ok (.dstore 5, 2) := gz_d tdX0_ownValue_t0_ok 32 rfl
theorem dX0_ownValue_54 : decode cX0_ownValue 54 = .ok (.iload_n 1, 1) := gz_d tdX0_ownValue_t0_ok 33 rfl
theorem dX0_ownValue_55 : decode cX0_ownValue 55 = .ok (.iconst (-1), 1) := gz_d tdX0_ownValue_t0_ok 34 rfl
theorem dX0_ownValue_56 : decode cX0_ownValue 56 = .ok (.if_icmp .ne 7, 3) := gz_d tdX0_ownValue_t0_ok 35 rfl
theorem dX0_ownValue_59 : decode cX0_ownValue 59 = .ok (.iconst 1, 1) := gz_d tdX0_ownValue_t0_ok 36 rfl
theorem dX0_ownValue_60 : decode cX0_ownValue 60 = .ok (.goto 6, 3) := gz_d tdX0_ownValue_t0_ok 37 rfl
theorem dX0_ownValue_63 : decode cX0_ownValue 63 = .ok (.iload_n 1, 1) := gz_d tdX0_ownValue_t0_ok 38 rfl
theorem dX0_ownValue_64 : decode cX0_ownValue 64 = .ok (.iconst 1, 1) := gz_d tdX0_ownValue_t0_ok 39 rfl
theorem dX0_ownValue_65 : decode cX0_ownValue 65 = .ok (.iadd, 1) := gz_d tdX0_ownValue_t0_ok 40 rfl
theorem dX0_ownValue_66 : decode cX0_ownValue 66 = .ok (.istore 7, 2) := gz_d tdX0_ownValue_t0_ok 41 rfl
theorem dX0_ownValue_68 : decode cX0_ownValue 68 = .ok (.iload 7, 2) := gz_d tdX0_ownValue_t0_ok 42 rfl
theorem dX0_ownValue_70 : decode cX0_ownValue 70 = .ok (.aload_n 0, 1) := gz_d tdX0_ownValue_t0_ok 43 rfl
theorem dX0_ownValue_71 : decode cX0_ownValue 71 = .ok (.getfield 22, 3) := gz_d tdX0_ownValue_t0_ok 44 rfl
theorem dX0_ownValue_74 : decode cX0_ownValue 74 = .ok (.getfield 34, 3) := gz_d tdX0_ownValue_t0_ok 45 rfl
theorem dX0_ownValue_77 : decode cX0_ownValue 77 = .ok (.if_icmp .ge 43, 3) := gz_d tdX0_ownValue_t0_ok 46 rfl
theorem dX0_ownValue_80 : decode cX0_ownValue 80 = .ok (.aload_n 0, 1) := gz_d tdX0_ownValue_t0_ok 47 rfl
theorem dX0_ownValue_81 : decode cX0_ownValue 81 = .ok (.iload 7, 2) := gz_d tdX0_ownValue_t0_ok 48 rfl
theorem dX0_ownValue_83 : decode cX0_ownValue 83 = .ok (.iconst 1, 1) := gz_d tdX0_ownValue_t0_ok 49 rfl
theorem dX0_ownValue_84 : decode cX0_ownValue 84 = .ok (.aload_n 0, 1) := gz_d tdX0_ownValue_t0_ok 50 rfl
theorem dX0_ownValue_85 : decode cX0_ownValue 85 = .ok (.getfield 26, 3) := gz_d tdX0_ownValue_t0_ok 51 rfl
theorem dX0_ownValue_88 : decode cX0_ownValue 88 = .ok (.isub, 1) := gz_d tdX0_ownValue_t0_ok 52 rfl
theorem dX0_ownValue_89 : decode cX0_ownValue 89 = .ok (.iload_n 2, 1) := gz_d tdX0_ownValue_t0_ok 53 rfl
theorem dX0_ownValue_90 : decode cX0_ownValue 90 = .ok (.iload_n 3, 1) := gz_d tdX0_ownValue_t0_ok 54 rfl
theorem dX0_ownValue_91 : decode cX0_ownValue 91 = .ok (.iconst 1, 1) := gz_d tdX0_ownValue_t0_ok 55 rfl
theorem dX0_ownValue_92 : decode cX0_ownValue 92 = .ok (.iadd, 1) := gz_d tdX0_ownValue_t0_ok 56 rfl
theorem dX0_ownValue_93 : decode cX0_ownValue 93 = .ok (.invokevirtual 60, 3) := gz_d tdX0_ownValue_t0_ok 57 rfl
theorem dX0_ownValue_96 : decode cX0_ownValue 96 = .ok (.dstore 8, 2) := gz_d tdX0_ownValue_t0_ok 58 rfl
theorem dX0_ownValue_98 : decode cX0_ownValue 98 = .ok (.dload 8, 2) := gz_d tdX0_ownValue_t0_ok 59 rfl
def tdX0_ownValue_t1 : List (Nat × Instr × Nat) := [(100, .dload 5, 2), (102, .dcmp .l, 1), (103, .ifCond .le 11, 3), (106, .dload 8, 2), (108, .dstore 5, 2), (110, .iload 7, 2), (112, .istore 4, 2), (114, .iinc 7 1, 3), (117, .goto (-49), 3), (120, .aload_n 0, 1), (121, .iload 4, 2), (123, .putfield 68, 3), (126, .dload 5, 2), (128, .dreturn, 1)]
theorem tdX0_ownValue_t1_ok : gz_dec cX0_ownValue tdX0_ownValue_t1 = true := by decide +kernel
theorem dX0_ownValue_100 : decode cX0_ownValue 100 = .ok (.dload 5, 2) := gz_d tdX0_ownValue_t1_ok 0 rfl
theorem dX0_ownValue_102 : decode cX0_ownValue 102 = .ok (.dcmp .l, 1) := gz_d tdX0_ownValue_t1_ok 1 rfl
theorem dX0_ownValue_103 : decode cX0_ownValue 103 = .ok (.ifCond .le 11, 3) := gz_d tdX0_ownValue_t1_ok 2 rfl
theorem dX0_ownValue_106 : decode cX0_ownValue 106 = .ok (.dload 8, 2) := gz_d tdX0_ownValue_t1_ok 3 rfl
theorem dX0_ownValue_108 : decode cX0_ownValue 108 = .ok (.dstore 5, 2) := gz_d tdX0_ownValue_t1_ok 4 rfl
theorem dX0_ownValue_110 : decode cX0_ownValue 110 = .ok (.iload 7, 2) := gz_d tdX0_ownValue_t1_ok 5 rfl
theorem dX0_ownValue_112 : decode cX0_ownValue 112 = .ok (.istore 4, 2) := gz_d tdX0_ownValue_t1_ok 6 rfl
theorem dX0_ownValue_114 : decode cX0_ownValue 114 = .ok (.iinc 7 1, 3) := gz_d tdX0_ownValue_t1_ok 7 rfl
theorem dX0_ownValue_117 : decode cX0_ownValue 117 = .ok (.goto (-49), 3) := gz_d tdX0_ownValue_t1_ok 8 rfl
theorem dX0_ownValue_120 : decode cX0_ownValue 120 = .ok (.aload_n 0, 1) := gz_d tdX0_ownValue_t1_ok 9 rfl
theorem dX0_ownValue_121 : decode cX0_ownValue 121 = .ok (.iload 4, 2) := gz_d tdX0_ownValue_t1_ok 10 rfl
theorem dX0_ownValue_123 : decode cX0_ownValue 123 = .ok (.putfield 68, 3) := gz_d tdX0_ownValue_t1_ok 11 rfl
theorem dX0_ownValue_126 : decode cX0_ownValue 126 = .ok (.dload 5, 2) := gz_d tdX0_ownValue_t1_ok 12 rfl
theorem dX0_ownValue_128 : decode cX0_ownValue 128 = .ok (.dreturn, 1) := gz_d tdX0_ownValue_t1_ok 13 rfl
def tdX0_otherValue_t0 : List (Nat × Instr × Nat) := [(0, .dconst 0, 1), (1, .dstore 4, 2), (3, .iload_n 1, 1), (4, .iconst (-1), 1), (5, .if_icmp .eq 31, 3), (8, .aload_n 0, 1), (9, .iload_n 1, 1), (10, .iconst (-1), 1), (11, .iload_n 2, 1), (12, .invokevirtual 71, 3), (15, .ifCond .eq 21, 3), (18, .aload_n 0, 1), (19, .dload 4, 2), (21, .iconst 1, 1), (22, .aload_n 0, 1), (23, .getfield 26, 3), (26, .isub, 1), (27, .iload_n 1, 1), (28, .iload_n 2, 1), (29, .iconst 1, 1), (30, .iadd, 1), (31, .invokevirtual 89, 3), (34, .dstore 4, 2), (36, .iload_n 1, 1), (37, .iconst 1, 1), (38, .iadd, 1), (39, .istore 6, 2), (41, .iload 6, 2), (43, .aload_n 0, 1), (44, .getfield 22, 3), (47, .getfield 34, 3), (50, .if_icmp .ge 41, 3), (53, .aload_n 0, 1), (54, .iload_n 1, 1), (55, .iload 6, 2), (57, .iload_n 2, 1), (58, .invokevirtual 71, 3), (61, .ifCond .eq 24, 3), (64, .dload 4, 2), (66, .aload_n 0, 1), (67, .iload 6, 2), (69, .aload_n 0, 1), (70, .getfield 26, 3), (73, .iload_n 2, 1), (74, .iconst 1, 1), (75, .iadd, 1), (76, .iload_n 3, 1), (77, .iconst 1, 1), (78, .iadd, 1), (79, .invokevirtual 60, 3), (82, .dadd, 1), (83, .dstore 4, 2), (85, .iinc 6 1, 3), (88, .goto (-47), 3), (91, .dload 4, 2), (93, .dreturn, 1)]
theorem tdX0_otherValue_t0_ok : gz_dec cX0_otherValue tdX0_otherValue_t0 = true := by decide +kernel
theorem dX0_otherValue_0 : decode cX0_otherValue 0 = .ok (.dconst 0, 1) := gz_d tdX0_otherValue_t0_ok 0 rfl
theorem dX0_otherValue_1 : decode cX0_otherValue 1 = .ok (.dstore 4, 2) := gz_d tdX0_otherValue_t0_ok 1 rfl
theorem dX0_otherValue_3 : decode cX0_otherValue 3 = .ok (.iload_n 1, 1) := gz_d tdX0_otherValue_t0_ok 2 rfl
theorem dX0_otherValue_4 : decode cX0_otherValue 4 = .ok (.iconst (-1), 1) := gz_d tdX0_otherValue_t0_ok 3 rfl
theorem dX0_otherValue_5 : decode cX0_otherValue 5 = .ok (.if_icmp .eq 31, 3) := gz_d tdX0_otherValue_t0_ok 4 rfl
theorem dX0_otherValue_8 : decode cX0_otherValue 8 = .ok (.aload_n 0, 1) := gz_d tdX0_otherValue_t0_ok 5 rfl
theorem dX0_otherValue_9 : decode cX0_otherValue 9 = .ok (.iload_n 1, 1) := gz_d tdX0_otherValue_t0_ok 6 rfl
theorem dX0_otherValue_10 : decode cX0_otherValue 10 = .ok (.iconst (-1), 1) := gz_d tdX0_otherValue_t0_ok 7 rfl
theorem dX0_otherValue_11 : decode cX0_otherValue 11 = .ok (.iload_n 2, 1) := gz_d tdX0_otherValue_t0_ok 8 rfl
theorem dX0_otherValue_12 : decode cX0_otherValue 12 = .ok (.invokevirtual 71, 3) := gz_d tdX0_otherValue_t0_ok 9 rfl
theorem dX0_otherValue_15 : decode cX0_otherValue 15 = .ok (.ifCond .eq 21, 3) := gz_d tdX0_otherValue_t0_ok 10 rfl
theorem dX0_otherValue_18 : decode cX0_otherValue 18 = .ok (.aload_n 0, 1) := gz_d tdX0_otherValue_t0_ok 11 rfl
theorem dX0_otherValue_19 : decode cX0_otherValue 19 = .ok (.dload 4, 2) := gz_d tdX0_otherValue_t0_ok 12 rfl
theorem dX0_otherValue_21 : decode cX0_otherValue 21 = .ok (.iconst 1, 1) := gz_d tdX0_otherValue_t0_ok 13 rfl
theorem dX0_otherValue_22 : decode cX0_otherValue 22 = .ok (.aload_n 0, 1) := gz_d tdX0_otherValue_t0_ok 14 rfl
theorem dX0_otherValue_23 : decode cX0_otherValue 23 = .ok (.getfield 26, 3) := gz_d tdX0_otherValue_t0_ok 15 rfl
theorem dX0_otherValue_26 : decode cX0_otherValue 26 = .ok (.isub, 1) := gz_d tdX0_otherValue_t0_ok 16 rfl
theorem dX0_otherValue_27 : decode cX0_otherValue 27 = .ok (.iload_n 1, 1) := gz_d tdX0_otherValue_t0_ok 17 rfl
theorem dX0_otherValue_28 : decode cX0_otherValue 28 = .ok (.iload_n 2, 1) := gz_d tdX0_otherValue_t0_ok 18 rfl
theorem dX0_otherValue_29 : decode cX0_otherValue 29 = .ok (.iconst 1, 1) := gz_d tdX0_otherValue_t0_ok 19 rfl
theorem dX0_otherValue_30 : decode cX0_otherValue 30 = .ok (.iadd, 1) := gz_d tdX0_otherValue_t0_ok 20 rfl
theorem dX0_otherValue_31 : decode cX0_otherValue 31 = .ok (.invokevirtual 89, 3) := gz_d tdX0_otherValue_t0_ok 21 rfl
theorem dX0_otherValue_34 : decode cX0_otherValue 34 = .ok (.dstore 4, 2) := gz_d tdX0_otherValue_t0_ok 22 rfl
theorem dX0_otherValue_36 : decode cX0_otherValue 36 = .ok (.iload_n 1, 1) := gz_d tdX0_otherValue_t0_ok 23 rfl
theorem dX0_otherValue_37 : decode cX0_otherValue 37 = .ok (.iconst 1, 1) := gz_d tdX0_otherValue_t0_ok 24 rfl
theorem dX0_otherValue_38 : decode cX0_otherValue 38 = .ok (.iadd, 1) := gz_d tdX0_otherValue_t0_ok 25 rfl
theorem dX0_otherValue_39 : decode cX0_otherValue 39 = .ok (.istore 6, 2) := gz_d tdX0_otherValue_t0_ok 26 rfl
theorem dX0_otherValue_41 : decode cX0_otherValue 41 = .ok (.iload 6, 2) := gz_d tdX0_otherValue_t0_ok 27 rfl
theorem dX0_otherValue_43 : decode cX0_otherValue 43 = .ok (.aload_n 0, 1) := gz_d tdX0_otherValue_t0_ok 28 rfl
theorem dX0_otherValue_44 : decode cX0_otherValue 44 = .ok (.getfield 22, 3) := gz_d tdX0_otherValue_t0_ok 29 rfl
theorem dX0_otherValue_47 : decode cX0_otherValue 47 = .ok (.getfield 34, 3) := gz_d tdX0_otherValue_t0_ok 30 rfl
theorem dX0_otherValue_50 : decode cX0_otherValue 50 = .ok (.if_icmp .ge 41, 3) := gz_d tdX0_otherValue_t0_ok 31 rfl
theorem dX0_otherValue_53 : decode cX0_otherValue 53 = .ok (.aload_n 0, 1) := gz_d tdX0_otherValue_t0_ok 32 rfl
theorem dX0_otherValue_54 : decode cX0_otherValue 54 = .ok (.iload_n 1, 1) := gz_d tdX0_otherValue_t0_ok 33 rfl
theorem dX0_otherValue_55 : decode cX0_otherValue 55 = .ok (.iload 6, 2) := gz_d tdX0_otherValue_t0_ok 34 rfl
theorem dX0_otherValue_57 : decode cX0_otherValue 57 = .ok (.iload_n 2, 1) := gz_d tdX0_otherValue_t0_ok 35 rfl
theorem dX0_otherValue_58 : decode cX0_otherValue 58 = .ok (.invokevirtual 71, 3) := gz_d tdX0_otherValue_t0_ok 36 rfl
theorem dX0_otherValue_61 : decode cX0_otherValue 61 = .ok (.ifCond .eq 24, 3) := gz_d tdX0_otherValue_t0_ok 37 rfl
theorem dX0_otherValue_64 : decode cX0_otherValue 64 = .ok (.dload 4, 2) := gz_d tdX0_otherValue_t0_ok 38 rfl
theorem dX0_otherValue_66 : decode cX0_otherValue 66 = .ok (.aload_n 0, 1) := gz_d tdX0_otherValue_t0_ok 39 rfl
theorem dX0_otherValue_67 : decode cX0_otherValue 67 = .ok (.iload 6, 2) := gz_d tdX0_otherValue_t0_ok 40 rfl
theorem dX0_otherValue_69 : decode cX0_otherValue 69 = .ok (.aload_n 0, 1) := gz_d tdX0_otherValue_t0_ok 41 rfl
theorem dX0_otherValue_70 : decode cX0_otherValue 70 = .ok (.getfield 26, 3) := gz_d tdX0_otherValue_t0_ok 42 rfl
theorem dX0_otherValue_73 : decode cX0_otherValue 73 = .ok (.iload_n 2, 1) := gz_d tdX0_otherValue_t0_ok 43 rfl
theorem dX0_otherValue_74 : decode cX0_otherValue 74 = .ok (.iconst 1, 1) := gz_d tdX0_otherValue_t0_ok 44 rfl
theorem dX0_otherValue_75 : decode cX0_otherValue 75 = .ok (.iadd, 1) := gz_d tdX0_otherValue_t0_ok 45 rfl
theorem dX0_otherValue_76 : decode cX0_otherValue 76 = .ok (.iload_n 3, 1) := gz_d tdX0_otherValue_t0_ok 46 rfl
theorem dX0_otherValue_77 : decode cX0_otherValue 77 = .ok (.iconst 1, 1) := gz_d tdX0_otherValue_t0_ok 47 rfl
theorem dX0_otherValue_78 : decode cX0_otherValue 78 = .ok (.iadd, 1) := gz_d tdX0_otherValue_t0_ok 48 rfl
theorem dX0_otherValue_79 : decode cX0_otherValue 79 = .ok (.invokevirtual 60, 3) := gz_d tdX0_otherValue_t0_ok 49 rfl
theorem dX0_otherValue_82 : decode cX0_otherValue 82 = .ok (.dadd, 1) := gz_d tdX0_otherValue_t0_ok 50 rfl
theorem dX0_otherValue_83 : decode cX0_otherValue 83 = .ok (.dstore 4, 2) := gz_d tdX0_otherValue_t0_ok 51 rfl
theorem dX0_otherValue_85 : decode cX0_otherValue 85 = .ok (.iinc 6 1, 3) := gz_d tdX0_otherValue_t0_ok 52 rfl
theorem dX0_otherValue_88 : decode cX0_otherValue 88 = .ok (.goto (-47), 3) := gz_d tdX0_otherValue_t0_ok 53 rfl
theorem dX0_otherValue_91 : decode cX0_otherValue 91 = .ok (.dload 4, 2) := gz_d tdX0_otherValue_t0_ok 54 rfl
theorem dX0_otherValue_93 : decode cX0_otherValue 93 = .ok (.dreturn, 1) := gz_d tdX0_otherValue_t0_ok 55 rfl
def tdX0_follow_t0 : List (Nat × Instr × Nat) := [(0, .iconst 0, 1), (1, .istore 4, 2), (3, .aload_n 0, 1), (4, .invokevirtual 30, 3), (7, .getfield 47, 3), (10, .istore 5, 2), (12, .iconst 0, 1), (13, .istore 6, 2), (15, .iload 6, 2), (17, .iload 5, 2), (19, .if_icmp .ge 63, 3), (22, .aload_n 0, 1), (23, .getfield 18, 3), (26, .iload_n 3, 1), (27, .iconst 4, 1), (28, .imul, 1), (29, .iload 6, 2), (31, .iadd, 1), (32, .invokestatic 93, 3), (35, .aload_n 0, 1), (36, .getfield 12, 3), (39, .iload 6, 2), (41, .iload_n 1, 1), (42, .iload_n 2, 1), (43, .invokevirtual 97, 3), (46, .dmul, 1), (47, .dstore 7, 2), (49, .aload_n 0, 1), (50, .getfield 18, 3), (53, .iload_n 3, 1), (54, .iconst 1, 1), (55, .iadd, 1), (56, .iconst 4, 1), (57, .imul, 1), (58, .iload 6, 2), (60, .iadd, 1), (61, .dload 7, 2), (63, .invokestatic 78, 3), (66, .dload 7, 2), (68, .dconst 0, 1), (69, .dcmp .l, 1), (70, .ifCond .le 6, 3), (73, .iconst 1, 1), (74, .istore 4, 2), (76, .iinc 6 1, 3), (79, .goto (-64), 3), (82, .iload 4, 2), (84, .ireturn, 1)]
theorem tdX0_follow_t0_ok : gz_dec cX0_follow tdX0_follow_t0 = true := by decide +kernel
theorem dX0_follow_0 : decode cX0_follow 0 = .ok (.iconst 0, 1) := gz_d tdX0_follow_t0_ok 0 rfl
theorem dX0_follow_1 : decode cX0_follow 1 = .ok (.istore 4, 2) := gz_d tdX0_follow_t0_ok 1 rfl
theorem dX0_follow_3 : decode cX0_follow 3 = .ok (.aload_n 0, 1) := gz_d tdX0_follow_t0_ok 2 rfl
theorem dX0_follow_4 : decode cX0_follow 4 = .ok (.invokevirtual 30, 3) := gz_d tdX0_follow_t0_ok 3 rfl
theorem dX0_follow_7 : decode cX0_follow 7 = .ok (.getfield 47, 3) := gz_d tdX0_follow_t0_ok 4 rfl
theorem dX0_follow_10 : decode cX0_follow 10 = .ok (.istore 5, 2) := gz_d tdX0_follow_t0_ok 5 rfl
theorem dX0_follow_12 : decode cX0_follow 12 = .ok (.iconst 0, 1) := gz_d tdX0_follow_t0_ok 6 rfl
theorem dX0_follow_13 : decode cX0_follow 13 = .ok (.istore 6, 2) := gz_d tdX0_follow_t0_ok 7 rfl
theorem dX0_follow_15 : decode cX0_follow 15 = .ok (.iload 6, 2) := gz_d tdX0_follow_t0_ok 8 rfl
theorem dX0_follow_17 : decode cX0_follow 17 = .ok (.iload 5, 2) := gz_d tdX0_follow_t0_ok 9 rfl
theorem dX0_follow_19 : decode cX0_follow 19 = .ok (.if_icmp .ge 63, 3) := gz_d tdX0_follow_t0_ok 10 rfl
theorem dX0_follow_22 : decode cX0_follow 22 = .ok (.aload_n 0, 1) := gz_d tdX0_follow_t0_ok 11 rfl
theorem dX0_follow_23 : decode cX0_follow 23 = .ok (.getfield 18, 3) := gz_d tdX0_follow_t0_ok 12 rfl
theorem dX0_follow_26 : decode cX0_follow 26 = .ok (.iload_n 3, 1) := gz_d tdX0_follow_t0_ok 13 rfl
theorem dX0_follow_27 : decode cX0_follow 27 = .ok (.iconst 4, 1) := gz_d tdX0_follow_t0_ok 14 rfl
theorem dX0_follow_28 : decode cX0_follow 28 = .ok (.imul, 1) := gz_d tdX0_follow_t0_ok 15 rfl
theorem dX0_follow_29 : decode cX0_follow 29 = .ok (.iload 6, 2) := gz_d tdX0_follow_t0_ok 16 rfl
theorem dX0_follow_31 : decode cX0_follow 31 = .ok (.iadd, 1) := gz_d tdX0_follow_t0_ok 17 rfl
theorem dX0_follow_32 : decode cX0_follow 32 = .ok (.invokestatic 93, 3) := gz_d tdX0_follow_t0_ok 18 rfl
theorem dX0_follow_35 : decode cX0_follow 35 = .ok (.aload_n 0, 1) := gz_d tdX0_follow_t0_ok 19 rfl
theorem dX0_follow_36 : decode cX0_follow 36 = .ok (.getfield 12, 3) := gz_d tdX0_follow_t0_ok 20 rfl
theorem dX0_follow_39 : decode cX0_follow 39 = .ok (.iload 6, 2) := gz_d tdX0_follow_t0_ok 21 rfl
theorem dX0_follow_41 : decode cX0_follow 41 = .ok (.iload_n 1, 1) := gz_d tdX0_follow_t0_ok 22 rfl
theorem dX0_follow_42 : decode cX0_follow 42 = .ok (.iload_n 2, 1) := gz_d tdX0_follow_t0_ok 23 rfl
theorem dX0_follow_43 : decode cX0_follow 43 = .ok (.invokevirtual 97, 3) := gz_d tdX0_follow_t0_ok 24 rfl
theorem dX0_follow_46 : decode cX0_follow 46 = .ok (.dmul, 1) := gz_d tdX0_follow_t0_ok 25 rfl
theorem dX0_follow_47 : decode cX0_follow 47 = .ok (.dstore 7, 2) := gz_d tdX0_follow_t0_ok 26 rfl
theorem dX0_follow_49 : decode cX0_follow 49 = .ok (.aload_n 0, 1) := gz_d tdX0_follow_t0_ok 27 rfl
theorem dX0_follow_50 : decode cX0_follow 50 = .ok (.getfield 18, 3) := gz_d tdX0_follow_t0_ok 28 rfl
theorem dX0_follow_53 : decode cX0_follow 53 = .ok (.iload_n 3, 1) := gz_d tdX0_follow_t0_ok 29 rfl
theorem dX0_follow_54 : decode cX0_follow 54 = .ok (.iconst 1, 1) := gz_d tdX0_follow_t0_ok 30 rfl
theorem dX0_follow_55 : decode cX0_follow 55 = .ok (.iadd, 1) := gz_d tdX0_follow_t0_ok 31 rfl
theorem dX0_follow_56 : decode cX0_follow 56 = .ok (.iconst 4, 1) := gz_d tdX0_follow_t0_ok 32 rfl
theorem dX0_follow_57 : decode cX0_follow 57 = .ok (.imul, 1) := gz_d tdX0_follow_t0_ok 33 rfl
theorem dX0_follow_58 : decode cX0_follow 58 = .ok (.iload 6, 2) := gz_d tdX0_follow_t0_ok 34 rfl
theorem dX0_follow_60 : decode cX0_follow 60 = .ok (.iadd, 1) := gz_d tdX0_follow_t0_ok 35 rfl
theorem dX0_follow_61 : decode cX0_follow 61 = .ok (.dload 7, 2) := gz_d tdX0_follow_t0_ok 36 rfl
theorem dX0_follow_63 : decode cX0_follow 63 = .ok (.invokestatic 78, 3) := gz_d tdX0_follow_t0_ok 37 rfl
theorem dX0_follow_66 : decode cX0_follow 66 = .ok (.dload 7, 2) := gz_d tdX0_follow_t0_ok 38 rfl
theorem dX0_follow_68 : decode cX0_follow 68 = .ok (.dconst 0, 1) := gz_d tdX0_follow_t0_ok 39 rfl
theorem dX0_follow_69 : decode cX0_follow 69 = .ok (.dcmp .l, 1) := gz_d tdX0_follow_t0_ok 40 rfl
theorem dX0_follow_70 : decode cX0_follow 70 = .ok (.ifCond .le 6, 3) := gz_d tdX0_follow_t0_ok 41 rfl
theorem dX0_follow_73 : decode cX0_follow 73 = .ok (.iconst 1, 1) := gz_d tdX0_follow_t0_ok 42 rfl
theorem dX0_follow_74 : decode cX0_follow 74 = .ok (.istore 4, 2) := gz_d tdX0_follow_t0_ok 43 rfl
theorem dX0_follow_76 : decode cX0_follow 76 = .ok (.iinc 6 1, 3) := gz_d tdX0_follow_t0_ok 44 rfl
theorem dX0_follow_79 : decode cX0_follow 79 = .ok (.goto (-64), 3) := gz_d tdX0_follow_t0_ok 45 rfl
theorem dX0_follow_82 : decode cX0_follow 82 = .ok (.iload 4, 2) := gz_d tdX0_follow_t0_ok 46 rfl
theorem dX0_follow_84 : decode cX0_follow 84 = .ok (.ireturn, 1) := gz_d tdX0_follow_t0_ok 47 rfl
def tdX0_addCallWins_t0 : List (Nat × Instr × Nat) := [(0, .dload_n 1, 1), (1, .dstore 6, 2), (3, .aload_n 0, 1), (4, .invokevirtual 30, 3), (7, .getfield 47, 3), (10, .istore 8, 2), (12, .iconst 0, 1), (13, .istore 9, 2), (15, .iload 9, 2), (17, .iload 8, 2), (19, .if_icmp .ge 63, 3), (22, .iload_n 3, 1), (23, .aload_n 0, 1), (24, .getfield 26, 3), (27, .if_icmp .ne 7, 3), (30, .iconst 1, 1), (31, .goto 4, 3), (34, .iconst 0, 1), (35, .aload_n 0, 1), (36, .getfield 22, 3), (39, .aload_n 0, 1), (40, .getfield 26, 3), (43, .aload_n 0, 1), (44, .getfield 75, 3), (47, .iload 9, 2), (49, .iload 4, 2), (51, .invokevirtual 100, 3), (54, .if_icmp .eq 22, 3), (57, .dload 6, 2), (59, .aload_n 0, 1), (60, .getfield 18, 3), (63, .iload 5, 2), (65, .iconst 4, 1), (66, .imul, 1), (67, .iload 9, 2), (69, .iadd, 1), (70, .invokestatic 93, 3), (73, .dadd, 1), (74, .dstore 6, 2), (76, .iinc 9 1, 3), (79, .goto (-64), 3), (82, .dload 6, 2), (84, .dreturn, 1)]
theorem tdX0_addCallWins_t0_ok : gz_dec cX0_addCallWins tdX0_addCallWins_t0 = true := by decide +kernel
theorem dX0_addCallWins_0 : decode cX0_addCallWins 0 = .ok (.dload_n 1, 1) := gz_d tdX0_addCallWins_t0_ok 0 rfl
theorem dX0_addCallWins_1 : decode cX0_addCallWins 1 = .ok (.dstore 6, 2) := gz_d tdX0_addCallWins_t0_ok 1 rfl
theorem dX0_addCallWins_3 : decode cX0_addCallWins 3 = .ok (.aload_n 0, 1) := gz_d tdX0_addCallWins_t0_ok 2 rfl
theorem dX0_addCallWins_4 : decode cX0_addCallWins 4 = .ok (.invokevirtual 30, 3) := gz_d tdX0_addCallWins_t0_ok 3 rfl
theorem dX0_addCallWins_7 : decode cX0_addCallWins 7 = .ok (.getfield 47, 3) := gz_d tdX0_addCallWins_t0_ok 4 rfl
theorem dX0_addCallWins_10 : decode cX0_addCallWins 10 = .ok (.istore 8, 2) := gz_d tdX0_addCallWins_t0_ok 5 rfl
theorem dX0_addCallWins_12 : decode cX0_addCallWins 12 = .ok (.iconst 0, 1) := gz_d tdX0_addCallWins_t0_ok 6 rfl
theorem dX0_addCallWins_13 : decode cX0_addCallWins 13 = .ok (.istore 9, 2) := gz_d tdX0_addCallWins_t0_ok 7 rfl
theorem dX0_addCallWins_15 : decode cX0_addCallWins 15 = .ok (.iload 9, 2) := gz_d tdX0_addCallWins_t0_ok 8 rfl
theorem dX0_addCallWins_17 : decode cX0_addCallWins 17 = .ok (.iload 8, 2) := gz_d tdX0_addCallWins_t0_ok 9 rfl
theorem dX0_addCallWins_19 : decode cX0_addCallWins 19 = .ok (.if_icmp .ge 63, 3) := gz_d tdX0_addCallWins_t0_ok 10 rfl
theorem dX0_addCallWins_22 : decode cX0_addCallWins 22 = .ok (.iload_n 3, 1) := gz_d tdX0_addCallWins_t0_ok 11 rfl
theorem dX0_addCallWins_23 : decode cX0_addCallWins 23 = .ok (.aload_n 0, 1) := gz_d tdX0_addCallWins_t0_ok 12 rfl
theorem dX0_addCallWins_24 : decode cX0_addCallWins 24 = .ok (.getfield 26, 3) := gz_d tdX0_addCallWins_t0_ok 13 rfl
theorem dX0_addCallWins_27 : decode cX0_addCallWins 27 = .ok (.if_icmp .ne 7, 3) := gz_d tdX0_addCallWins_t0_ok 14 rfl
theorem dX0_addCallWins_30 : decode cX0_addCallWins 30 = .ok (.iconst 1, 1) := gz_d tdX0_addCallWins_t0_ok 15 rfl
theorem dX0_addCallWins_31 : decode cX0_addCallWins 31 = .ok (.goto 4, 3) := gz_d tdX0_addCallWins_t0_ok 16 rfl
theorem dX0_addCallWins_34 : decode cX0_addCallWins 34 = .ok (.iconst 0, 1) := gz_d tdX0_addCallWins_t0_ok 17 rfl
theorem dX0_addCallWins_35 : decode cX0_addCallWins 35 = .ok (.aload_n 0, 1) := gz_d tdX0_addCallWins_t0_ok 18 rfl
theorem dX0_addCallWins_36 : decode cX0_addCallWins 36 = .ok (.getfield 22, 3) := gz_d tdX0_addCallWins_t0_ok 19 rfl
theorem dX0_addCallWins_39 : decode cX0_addCallWins 39 = .ok (.aload_n 0, 1) := gz_d tdX0_addCallWins_t0_ok 20 rfl
theorem dX0_addCallWins_40 : decode cX0_addCallWins 40 = .ok (.getfield 26, 3) := gz_d tdX0_addCallWins_t0_ok 21 rfl
theorem dX0_addCallWins_43 : decode cX0_addCallWins 43 = .ok (.aload_n 0, 1) := gz_d tdX0_addCallWins_t0_ok 22 rfl
theorem dX0_addCallWins_44 : decode cX0_addCallWins 44 = .ok (.getfield 75, 3) := gz_d tdX0_addCallWins_t0_ok 23 rfl
theorem dX0_addCallWins_47 : decode cX0_addCallWins 47 = .ok (.iload 9, 2) := gz_d tdX0_addCallWins_t0_ok 24 rfl
theorem dX0_addCallWins_49 : decode cX0_addCallWins 49 = .ok (.iload 4, 2) := gz_d tdX0_addCallWins_t0_ok 25 rfl
theorem dX0_addCallWins_51 : decode cX0_addCallWins 51 = .ok (.invokevirtual 100, 3) := gz_d tdX0_addCallWins_t0_ok 26 rfl
theorem dX0_addCallWins_54 : decode cX0_addCallWins 54 = .ok (.if_icmp .eq 22, 3) := gz_d tdX0_addCallWins_t0_ok 27 rfl
theorem dX0_addCallWins_57 : decode cX0_addCallWins 57 = .ok (.dload 6, 2) := gz_d tdX0_addCallWins_t0_ok 28 rfl
theorem dX0_addCallWins_59 : decode cX0_addCallWins 59 = .ok (.aload_n 0, 1) := gz_d tdX0_addCallWins_t0_ok 29 rfl
theorem dX0_addCallWins_60 : decode cX0_addCallWins 60 = .ok (.getfield 18, 3) := gz_d tdX0_addCallWins_t0_ok 30 rfl
theorem dX0_addCallWins_63 : decode cX0_addCallWins 63 = .ok (.iload 5, 2) := gz_d tdX0_addCallWins_t0_ok 31 rfl
theorem dX0_addCallWins_65 : decode cX0_addCallWins 65 = .ok (.iconst 4, 1) := gz_d tdX0_addCallWins_t0_ok 32 rfl
theorem dX0_addCallWins_66 : decode cX0_addCallWins 66 = .ok (.imul, 1) := gz_d tdX0_addCallWins_t0_ok 33 rfl
theorem dX0_addCallWins_67 : decode cX0_addCallWins 67 = .ok (.iload 9, 2) := gz_d tdX0_addCallWins_t0_ok 34 rfl
theorem dX0_addCallWins_69 : decode cX0_addCallWins 69 = .ok (.iadd, 1) := gz_d tdX0_addCallWins_t0_ok 35 rfl
theorem dX0_addCallWins_70 : decode cX0_addCallWins 70 = .ok (.invokestatic 93, 3) := gz_d tdX0_addCallWins_t0_ok 36 rfl
theorem dX0_addCallWins_73 : decode cX0_addCallWins 73 = .ok (.dadd, 1) := gz_d tdX0_addCallWins_t0_ok 37 rfl
theorem dX0_addCallWins_74 : decode cX0_addCallWins 74 = .ok (.dstore 6, 2) := gz_d tdX0_addCallWins_t0_ok 38 rfl
theorem dX0_addCallWins_76 : decode cX0_addCallWins 76 = .ok (.iinc 9 1, 3) := gz_d tdX0_addCallWins_t0_ok 39 rfl
theorem dX0_addCallWins_79 : decode cX0_addCallWins 79 = .ok (.goto (-64), 3) := gz_d tdX0_addCallWins_t0_ok 40 rfl
theorem dX0_addCallWins_82 : decode cX0_addCallWins 82 = .ok (.dload 6, 2) := gz_d tdX0_addCallWins_t0_ok 41 rfl
theorem dX0_addCallWins_84 : decode cX0_addCallWins 84 = .ok (.dreturn, 1) := gz_d tdX0_addCallWins_t0_ok 42 rfl
def tdX1_init_t0 : List (Nat × Instr × Nat) := [(0, .aload_n 0, 1), (1, .invokespecial 3, 3), (4, .aload_n 0, 1), (5, .bipush 16, 2), (7, .newarray .int, 2), (9, .putfield 9, 3), (12, .aload_n 0, 1), (13, .iconst 4, 1), (14, .newarray .int, 2), (16, .putfield 15, 3), (19, .aload_n 0, 1), (20, .iconst 3, 1), (21, .newarray .int, 2), (23, .putfield 18, 3), (26, .return_, 1)]
theorem tdX1_init_t0_ok : gz_dec cX1_init tdX1_init_t0 = true := by decide +kernel
theorem dX1_init_0 : decode cX1_init 0 = .ok (.aload_n 0, 1) := gz_d tdX1_init_t0_ok 0 rfl
theorem dX1_init_1 : decode cX1_init 1 = .ok (.invokespecial 3, 3) := gz_d tdX1_init_t0_ok 1 rfl
theorem dX1_init_4 : decode cX1_init 4 = .ok (.aload_n 0, 1) := gz_d tdX1_init_t0_ok 2 rfl
theorem dX1_init_5 : decode cX1_init 5 = .ok (.bipush 16, 2) := gz_d tdX1_init_t0_ok 3 rfl
theorem dX1_init_7 : decode cX1_init 7 = .ok (.newarray .int, 2) := gz_d tdX1_init_t0_ok 4 rfl
theorem dX1_init_9 : decode cX1_init 9 = .ok (.putfield 9, 3) := gz_d tdX1_init_t0_ok 5 rfl
theorem dX1_init_12 : decode cX1_init 12 = .ok (.aload_n 0, 1) := gz_d tdX1_init_t0_ok 6 rfl
theorem dX1_init_13 : decode cX1_init 13 = .ok (.iconst 4, 1) := gz_d tdX1_init_t0_ok 7 rfl
theorem dX1_init_14 : decode cX1_init 14 = .ok (.newarray .int, 2) := gz_d tdX1_init_t0_ok 8 rfl
theorem dX1_init_16 : decode cX1_init 16 = .ok (.putfield 15, 3) := gz_d tdX1_init_t0_ok 9 rfl
theorem dX1_init_19 : decode cX1_init 19 = .ok (.aload_n 0, 1) := gz_d tdX1_init_t0_ok 10 rfl
theorem dX1_init_20 : decode cX1_init 20 = .ok (.iconst 3, 1) := gz_d tdX1_init_t0_ok 11 rfl
theorem dX1_init_21 : decode cX1_init 21 = .ok (.newarray .int, 2) := gz_d tdX1_init_t0_ok 12 rfl
theorem dX1_init_23 : decode cX1_init 23 = .ok (.putfield 18, 3) := gz_d tdX1_init_t0_ok 13 rfl
theorem dX1_init_26 : decode cX1_init 26 = .ok (.return_, 1) := gz_d tdX1_init_t0_ok 14 rfl
def tdX1_fill_t0 : List (Nat × Instr × Nat) := [(0, .aload_n 0, 1), (1, .iload_n 1, 1), (2, .putfield 21, 3), (5, .aload_n 0, 1), (6, .iload_n 2, 1), (7, .putfield 25, 3), (10, .aload_n 0, 1), (11, .iconst 0, 1), (12, .putfield 28, 3), (15, .aload_n 0, 1), (16, .getfield 9, 3), (19, .iconst 0, 1), (20, .invokestatic 31, 3), (23, .aload_n 0, 1), (24, .getfield 18, 3), (27, .iconst 0, 1), (28, .invokestatic 31, 3), (31, .iconst 1, 1), (32, .istore_n 3, 1), (33, .iload_n 3, 1), (34, .ifCond .eq 37, 3), (37, .aload_n 0, 1), (38, .getfield 28, 3), (41, .iconst 4, 1), (42, .if_icmp .ge 29, 3), (45, .aload_n 0, 1), (46, .aload_n 0, 1), (47, .getfield 28, 3), (50, .invokevirtual 37, 3), (53, .aload_n 0, 1), (54, .dup, 1), (55, .getfield 28, 3), (58, .iconst 1, 1), (59, .iadd, 1), (60, .putfield 28, 3), (63, .aload_n 0, 1), (64, .invokevirtual 41, 3), (67, .istore_n 3, 1), (68, .goto (-35), 3), (71, .return_, 1)]
theorem tdX1_fill_t0_ok : gz_dec cX1_fill tdX1_fill_t0 = true := by decide +kernel
theorem dX1_fill_0 : decode cX1_fill 0 = .ok (.aload_n 0, 1) := gz_d tdX1_fill_t0_ok 0 rfl
theorem dX1_fill_1 : decode cX1_fill 1 = .ok (.iload_n 1, 1) := gz_d tdX1_fill_t0_ok 1 rfl
theorem dX1_fill_2 : decode cX1_fill 2 = .ok (.putfield 21, 3) := gz_d tdX1_fill_t0_ok 2 rfl
theorem dX1_fill_5 : decode cX1_fill 5 = .ok (.aload_n 0, 1) := gz_d tdX1_fill_t0_ok 3 rfl
theorem dX1_fill_6 : decode cX1_fill 6 = .ok (.iload_n 2, 1) := gz_d tdX1_fill_t0_ok 4 rfl
theorem dX1_fill_7 : decode cX1_fill 7 = .ok (.putfield 25, 3) := gz_d tdX1_fill_t0_ok 5 rfl
theorem dX1_fill_10 : decode cX1_fill 10 = .ok (.aload_n 0, 1) := gz_d tdX1_fill_t0_ok 6 rfl
theorem dX1_fill_11 : decode cX1_fill 11 = .ok (.iconst 0, 1) := gz_d tdX1_fill_t0_ok 7 rfl
theorem dX1_fill_12 : decode cX1_fill 12 = .ok (.putfield 28, 3) := gz_d tdX1_fill_t0_ok 8 rfl
theorem dX1_fill_15 : decode cX1_fill 15 = .ok (.aload_n 0, 1) := gz_d tdX1_fill_t0_ok 9 rfl
theorem dX1_fill_16 : decode cX1_fill 16 = .ok (.getfield 9, 3) := gz_d tdX1_fill_t0_ok 10 rfl
theorem dX1_fill_19 : decode cX1_fill 19 = .ok (.iconst 0, 1) := gz_d tdX1_fill_t0_ok 11 rfl
theorem dX1_fill_20 : decode cX1_fill 20 = .ok (.invokestatic 31, 3) := gz_d tdX1_fill_t0_ok 12 rfl
theorem dX1_fill_23 : decode cX1_fill 23 = .ok (.aload_n 0, 1) := gz_d tdX1_fill_t0_ok 13 rfl
theorem dX1_fill_24 : decode cX1_fill 24 = .ok (.getfield 18, 3) := gz_d tdX1_fill_t0_ok 14 rfl
theorem dX1_fill_27 : decode cX1_fill 27 = .ok (.iconst 0, 1) := gz_d tdX1_fill_t0_ok 15 rfl
theorem dX1_fill_28 : decode cX1_fill 28 = .ok (.invokestatic 31, 3) := gz_d tdX1_fill_t0_ok 16 rfl
theorem dX1_fill_31 : decode cX1_fill 31 = .ok (.iconst 1, 1) := gz_d tdX1_fill_t0_ok 17 rfl
theorem dX1_fill_32 : decode cX1_fill 32 = .ok (.istore_n 3, 1) := gz_d tdX1_fill_t0_ok 18 rfl
theorem dX1_fill_33 : decode cX1_fill 33 = .ok (.iload_n 3, 1) := gz_d tdX1_fill_t0_ok 19 rfl
theorem dX1_fill_34 : decode cX1_fill 34 = .ok (.ifCond .eq 37, 3) := gz_d tdX1_fill_t0_ok 20 rfl
theorem dX1_fill_37 : decode cX1_fill 37 = .ok (.aload_n 0, 1) := gz_d tdX1_fill_t0_ok 21 rfl
theorem dX1_fill_38 : decode cX1_fill 38 = .ok (.getfield 28, 3) := gz_d tdX1_fill_t0_ok 22 rfl
theorem dX1_fill_41 : decode cX1_fill 41 = .ok (.iconst 4, 1) := gz_d tdX1_fill_t0_ok 23 rfl
theorem dX1_fill_42 : decode cX1_fill 42 = .ok (.if_icmp .ge 29, 3) := gz_d tdX1_fill_t0_ok 24 rfl
theorem dX1_fill_45 : decode cX1_fill 45 = .ok (.aload_n 0, 1) := gz_d tdX1_fill_t0_ok 25 rfl
theorem dX1_fill_46 : decode cX1_fill 46 = .ok (.aload_n 0, 1) := gz_d tdX1_fill_t0_ok 26 rfl
theorem dX1_fill_47 : decode cX1_fill 47 = .ok (.getfield 28, 3) := gz_d tdX1_fill_t0_ok 27 rfl
theorem dX1_fill_50 : decode cX1_fill 50 = .ok (.invokevirtual 37, 3) := gz_d tdX1_fill_t0_ok 28 rfl
theorem dX1_fill_53 : decode cX1_fill 53 = .ok (.aload_n 0, 1) := gz_d tdX1_fill_t0_ok 29 rfl
theorem dX1_fill_54 : decode cX1_fill 54 = .ok (.dup, 1) := gz_d tdX1_fill_t0_ok 30 rfl
theorem dX1_fill_55 : decode cX1_fill 55 = .ok (.getfield 28, 3) := gz_d tdX1_fill_t0_ok 31 rfl
theorem dX1_fill_58 : decode cX1_fill 58 = .ok (.iconst 1, 1) := gz_d tdX1_fill_t0_ok 32 rfl
theorem dX1_fill_59 : decode cX1_fill 59 = .ok (.iadd, 1) := gz_d tdX1_fill_t0_ok 33 rfl
theorem dX1_fill_60 : decode cX1_fill 60 = .ok (.putfield 28, 3) := gz_d tdX1_fill_t0_ok 34 rfl
theorem dX1_fill_63 : decode cX1_fill 63 = .ok (.aload_n 0, 1) := gz_d tdX1_fill_t0_ok 35 rfl
theorem dX1_fill_64 : decode cX1_fill 64 = .ok (.invokevirtual 41, 3) := gz_d tdX1_fill_t0_ok 36 rfl
theorem dX1_fill_67 : decode cX1_fill 67 = .ok (.istore_n 3, 1) := gz_d tdX1_fill_t0_ok 37 rfl
theorem dX1_fill_68 : decode cX1_fill 68 = .ok (.goto (-35), 3) := gz_d tdX1_fill_t0_ok 38 rfl
theorem dX1_fill_71 : decode cX1_fill 71 = .ok (.return_, 1) := gz_d tdX1_fill_t0_ok 39 rfl
def tdX1_writeHand_t0 : List (Nat × Instr × Nat) := [(0, .iconst 0, 1), (1, .istore_n 2, 1), (2, .iload_n 2, 1), (3, .aload_n 0, 1), (4, .getfield 21, 3), (7, .if_icmp .ge 40, 3), (10, .iload_n 1, 1), (11, .aload_n 0, 1), (12, .getfield 18, 3), (15, .iload_n 2, 1), (16, .invokestatic 45, 3), (19, .invokestatic 49, 3), (22, .istore_n 3, 1), (23, .aload_n 0, 1), (24, .getfield 9, 3), (27, .iload_n 3, 1), (28, .aload_n 0, 1), (29, .getfield 9, 3), (32, .iload_n 3, 1), (33, .invokestatic 45, 3), (36, .iconst 1, 1), (37, .iadd, 1), (38, .invokestatic 53, 3), (41, .iinc 2 1, 3), (44, .goto (-42), 3), (47, .aload_n 0, 1), (48, .getfield 21, 3), (51, .invokestatic 57, 3), (54, .istore_n 2, 1), (55, .iconst 0, 1), (56, .istore_n 3, 1), (57, .iload_n 3, 1), (58, .aload_n 0, 1), (59, .getfield 25, 3), (62, .if_icmp .ge 23, 3), (65, .iload_n 2, 1), (66, .aload_n 0, 1), (67, .iload_n 1, 1), (68, .iload_n 3, 1), (69, .invokevirtual 61, 3), (72, .invokestatic 57, 3), (75, .invokestatic 64, 3), (78, .istore_n 2, 1), (79, .iinc 3 1, 3), (82, .goto (-25), 3), (85, .aload_n 0, 1), (86, .getfield 15, 3), (89, .iload_n 1, 1), (90, .iload_n 2, 1), (91, .invokestatic 53, 3), (94, .return_, 1)]
theorem tdX1_writeHand_t0_ok : gz_dec cX1_writeHand tdX1_writeHand_t0 = true := by decide +kernel
theorem dX1_writeHand_0 : decode cX1_writeHand 0 = .ok (.iconst 0, 1) := gz_d tdX1_writeHand_t0_ok 0 rfl
theorem dX1_writeHand_1 : decode cX1_writeHand 1 = .ok (.istore_n 2, 1) := gz_d tdX1_writeHand_t0_ok 1 rfl
theorem dX1_writeHand_2 : decode cX1_writeHand 2 = .ok (.iload_n 2, 1) := gz_d tdX1_writeHand_t0_ok 2 rfl
theorem dX1_writeHand_3 : decode cX1_writeHand 3 = .ok (.aload_n 0, 1) := gz_d tdX1_writeHand_t0_ok 3 rfl
theorem dX1_writeHand_4 : decode cX1_writeHand 4 = .ok (.getfield 21, 3) := gz_d tdX1_writeHand_t0_ok 4 rfl
theorem dX1_writeHand_7 : decode cX1_writeHand 7 = .ok (.if_icmp .ge 40, 3) := gz_d tdX1_writeHand_t0_ok 5 rfl
theorem dX1_writeHand_10 : decode cX1_writeHand 10 = .ok (.iload_n 1, 1) := gz_d tdX1_writeHand_t0_ok 6 rfl
theorem dX1_writeHand_11 : decode cX1_writeHand 11 = .ok (.aload_n 0, 1) := gz_d tdX1_writeHand_t0_ok 7 rfl
theorem dX1_writeHand_12 : decode cX1_writeHand 12 = .ok (.getfield 18, 3) := gz_d tdX1_writeHand_t0_ok 8 rfl
theorem dX1_writeHand_15 : decode cX1_writeHand 15 = .ok (.iload_n 2, 1) := gz_d tdX1_writeHand_t0_ok 9 rfl
theorem dX1_writeHand_16 : decode cX1_writeHand 16 = .ok (.invokestatic 45, 3) := gz_d tdX1_writeHand_t0_ok 10 rfl
theorem dX1_writeHand_19 : decode cX1_writeHand 19 = .ok (.invokestatic 49, 3) := gz_d tdX1_writeHand_t0_ok 11 rfl
theorem dX1_writeHand_22 : decode cX1_writeHand 22 = .ok (.istore_n 3, 1) := gz_d tdX1_writeHand_t0_ok 12 rfl
theorem dX1_writeHand_23 : decode cX1_writeHand 23 = .ok (.aload_n 0, 1) := gz_d tdX1_writeHand_t0_ok 13 rfl
theorem dX1_writeHand_24 : decode cX1_writeHand 24 = .ok (.getfield 9, 3) := gz_d tdX1_writeHand_t0_ok 14 rfl
theorem dX1_writeHand_27 : decode cX1_writeHand 27 = .ok (.iload_n 3, 1) := gz_d tdX1_writeHand_t0_ok 15 rfl
theorem dX1_writeHand_28 : decode cX1_writeHand 28 = .ok (.aload_n 0, 1) := gz_d tdX1_writeHand_t0_ok 16 rfl
theorem dX1_writeHand_29 : decode cX1_writeHand 29 = .ok (.getfield 9, 3) := gz_d tdX1_writeHand_t0_ok 17 rfl
theorem dX1_writeHand_32 : decode cX1_writeHand 32 = .ok (.iload_n 3, 1) := gz_d tdX1_writeHand_t0_ok 18 rfl
theorem dX1_writeHand_33 : decode cX1_writeHand 33 = .ok (.invokestatic 45, 3) := gz_d tdX1_writeHand_t0_ok 19 rfl
theorem dX1_writeHand_36 : decode cX1_writeHand 36 = .ok (.iconst 1, 1) := gz_d tdX1_writeHand_t0_ok 20 rfl
theorem dX1_writeHand_37 : decode cX1_writeHand 37 = .ok (.iadd, 1) := gz_d tdX1_writeHand_t0_ok 21 rfl
theorem dX1_writeHand_38 : decode cX1_writeHand 38 = .ok (.invokestatic 53, 3) := gz_d tdX1_writeHand_t0_ok 22 rfl
theorem dX1_writeHand_41 : decode cX1_writeHand 41 = .ok (.iinc 2 1, 3) := gz_d tdX1_writeHand_t0_ok 23 rfl
theorem dX1_writeHand_44 : decode cX1_writeHand 44 = .ok (.goto (-42), 3) := gz_d tdX1_writeHand_t0_ok 24 rfl
theorem dX1_writeHand_47 : decode cX1_writeHand 47 = .ok (.aload_n 0, 1) := gz_d tdX1_writeHand_t0_ok 25 rfl
theorem dX1_writeHand_48 : decode cX1_writeHand 48 = .ok (.getfield 21, 3) := gz_d tdX1_writeHand_t0_ok 26 rfl
theorem dX1_writeHand_51 : decode cX1_writeHand 51 = .ok (.invokestatic 57, 3) := gz_d tdX1_writeHand_t0_ok 27 rfl
theorem dX1_writeHand_54 : decode cX1_writeHand 54 = .ok (.istore_n 2, 1) := gz_d tdX1_writeHand_t0_ok 28 rfl
theorem dX1_writeHand_55 : decode cX1_writeHand 55 = .ok (.iconst 0, 1) := gz_d tdX1_writeHand_t0_ok 29 rfl
theorem dX1_writeHand_56 : decode cX1_writeHand 56 = .ok (.istore_n 3, 1) := gz_d tdX1_writeHand_t0_ok 30 rfl
theorem dX1_writeHand_57 : decode cX1_writeHand 57 = .ok (.iload_n 3, 1) := gz_d tdX1_writeHand_t0_ok 31 rfl
theorem dX1_writeHand_58 : decode cX1_writeHand 58 = .ok (.aload_n 0, 1) := gz_d tdX1_writeHand_t0_ok 32 rfl
theorem dX1_writeHand_59 : decode cX1_writeHand 59 = .ok (.getfield 25, 3) := gz_d tdX1_writeHand_t0_ok 33 rfl
theorem dX1_writeHand_62 : decode cX1_writeHand 62 = .ok (.if_icmp .ge 23, 3) := gz_d tdX1_writeHand_t0_ok 34 rfl
theorem dX1_writeHand_65 : decode cX1_writeHand 65 = .ok (.iload_n 2, 1) := gz_d tdX1_writeHand_t0_ok 35 rfl
theorem dX1_writeHand_66 : decode cX1_writeHand 66 = .ok (.aload_n 0, 1) := gz_d tdX1_writeHand_t0_ok 36 rfl
theorem dX1_writeHand_67 : decode cX1_writeHand 67 = .ok (.iload_n 1, 1) := gz_d tdX1_writeHand_t0_ok 37 rfl
theorem dX1_writeHand_68 : decode cX1_writeHand 68 = .ok (.iload_n 3, 1) := gz_d tdX1_writeHand_t0_ok 38 rfl
theorem dX1_writeHand_69 : decode cX1_writeHand 69 = .ok (.invokevirtual 61, 3) := gz_d tdX1_writeHand_t0_ok 39 rfl
theorem dX1_writeHand_72 : decode cX1_writeHand 72 = .ok (.invokestatic 57, 3) := gz_d tdX1_writeHand_t0_ok 40 rfl
theorem dX1_writeHand_75 : decode cX1_writeHand 75 = .ok (.invokestatic 64, 3) := gz_d tdX1_writeHand_t0_ok 41 rfl
theorem dX1_writeHand_78 : decode cX1_writeHand 78 = .ok (.istore_n 2, 1) := gz_d tdX1_writeHand_t0_ok 42 rfl
theorem dX1_writeHand_79 : decode cX1_writeHand 79 = .ok (.iinc 3 1, 3) := gz_d tdX1_writeHand_t0_ok 43 rfl
theorem dX1_writeHand_82 : decode cX1_writeHand 82 = .ok (.goto (-25), 3) := gz_d tdX1_writeHand_t0_ok 44 rfl
theorem dX1_writeHand_85 : decode cX1_writeHand 85 = .ok (.aload_n 0, 1) := gz_d tdX1_writeHand_t0_ok 45 rfl
theorem dX1_writeHand_86 : decode cX1_writeHand 86 = .ok (.getfield 15, 3) := gz_d tdX1_writeHand_t0_ok 46 rfl
theorem dX1_writeHand_89 : decode cX1_writeHand 89 = .ok (.iload_n 1, 1) := gz_d tdX1_writeHand_t0_ok 47 rfl
theorem dX1_writeHand_90 : decode cX1_writeHand 90 = .ok (.iload_n 2, 1) := gz_d tdX1_writeHand_t0_ok 48 rfl
theorem dX1_writeHand_91 : decode cX1_writeHand 91 = .ok (.invokestatic 53, 3) := gz_d tdX1_writeHand_t0_ok 49 rfl
theorem dX1_writeHand_94 : decode cX1_writeHand 94 = .ok (.return_, 1) := gz_d tdX1_writeHand_t0_ok 50 rfl
def tdX1_stepRow_t0 : List (Nat × Instr × Nat) := [(0, .aload_n 0, 1), (1, .getfield 21, 3), (4, .iconst 1, 1), (5, .isub, 1), (6, .istore_n 1, 1), (7, .iload_n 1, 1), (8, .ifCond .lt 55, 3), (11, .aload_n 0, 1), (12, .getfield 18, 3), (15, .iload_n 1, 1), (16, .invokestatic 45, 3), (19, .iconst 1, 1), (20, .iadd, 1), (21, .istore_n 2, 1), (22, .iload_n 2, 1), (23, .aload_n 0, 1), (24, .getfield 25, 3), (27, .if_icmp .ge 30, 3), (30, .iload_n 1, 1), (31, .istore_n 3, 1), (32, .iload_n 3, 1), (33, .aload_n 0, 1), (34, .getfield 21, 3), (37, .if_icmp .ge 18, 3), (40, .aload_n 0, 1), (41, .getfield 18, 3), (44, .iload_n 3, 1), (45, .iload_n 2, 1), (46, .invokestatic 53, 3), (49, .iinc 3 1, 3), (52, .goto (-20), 3), (55, .iconst 1, 1), (56, .ireturn, 1), (57, .iinc 1 (-1), 3), (60, .goto (-53), 3), (63, .iconst 0, 1), (64, .ireturn, 1)]
theorem tdX1_stepRow_t0_ok : gz_dec cX1_stepRow tdX1_stepRow_t0 = true := by decide +kernel
theorem dX1_stepRow_0 : decode cX1_stepRow 0 = .ok (.aload_n 0, 1) := gz_d tdX1_stepRow_t0_ok 0 rfl
theorem dX1_stepRow_1 : decode cX1_stepRow 1 = .ok (.getfield 21, 3) := gz_d tdX1_stepRow_t0_ok 1 rfl
theorem dX1_stepRow_4 : decode cX1_stepRow 4 = .ok (.iconst 1, 1) := gz_d tdX1_stepRow_t0_ok 2 rfl
theorem dX1_stepRow_5 : decode cX1_stepRow 5 = .ok (.isub, 1) := gz_d tdX1_stepRow_t0_ok 3 rfl
theorem dX1_stepRow_6 : decode cX1_stepRow 6 = .ok (.istore_n 1, 1) := gz_d tdX1_stepRow_t0_ok 4 rfl
theorem dX1_stepRow_7 : decode cX1_stepRow 7 = .ok (.iload_n 1, 1) := gz_d tdX1_stepRow_t0_ok 5 rfl
theorem dX1_stepRow_8 : decode cX1_stepRow 8 = .ok (.ifCond .lt 55, 3) := gz_d tdX1_stepRow_t0_ok 6 rfl
theorem dX1_stepRow_11 : decode cX1_stepRow 11 = .ok (.aload_n 0, 1) := gz_d tdX1_stepRow_t0_ok 7 rfl
theorem dX1_stepRow_12 : decode cX1_stepRow 12 = .ok (.getfield 18, 3) := gz_d tdX1_stepRow_t0_ok 8 rfl
theorem dX1_stepRow_15 : decode cX1_stepRow 15 = .ok (.iload_n 1, 1) := gz_d tdX1_stepRow_t0_ok 9 rfl
theorem dX1_stepRow_16 : decode cX1_stepRow 16 = .ok (.invokestatic 45, 3) := gz_d tdX1_stepRow_t0_ok 10 rfl
theorem dX1_stepRow_19 : decode cX1_stepRow 19 = .ok (.iconst 1, 1) := gz_d tdX1_stepRow_t0_ok 11 rfl
theorem dX1_stepRow_20 : decode cX1_stepRow 20 = .ok (.iadd, 1) := gz_d tdX1_stepRow_t0_ok 12 rfl
theorem dX1_stepRow_21 : decode cX1_stepRow 21 = .ok (.istore_n 2, 1) := gz_d tdX1_stepRow_t0_ok 13 rfl
theorem dX1_stepRow_22 : decode cX1_stepRow 22 = .ok (.iload_n 2, 1) := gz_d tdX1_stepRow_t0_ok 14 rfl
theorem dX1_stepRow_23 : decode cX1_stepRow 23 = .ok (.aload_n 0, 1) := gz_d tdX1_stepRow_t0_ok 15 rfl
theorem dX1_stepRow_24 : decode cX1_stepRow 24 = .ok (.getfield 25, 3) := gz_d tdX1_stepRow_t0_ok 16 rfl
theorem dX1_stepRow_27 : decode cX1_stepRow 27 = .ok (.if_icmp .ge 30, 3) := gz_d tdX1_stepRow_t0_ok 17 rfl
theorem dX1_stepRow_30 : decode cX1_stepRow 30 = .ok (.iload_n 1, 1) := gz_d tdX1_stepRow_t0_ok 18 rfl
theorem dX1_stepRow_31 : decode cX1_stepRow 31 = .ok (.istore_n 3, 1) := gz_d tdX1_stepRow_t0_ok 19 rfl
theorem dX1_stepRow_32 : decode cX1_stepRow 32 = .ok (.iload_n 3, 1) := gz_d tdX1_stepRow_t0_ok 20 rfl
theorem dX1_stepRow_33 : decode cX1_stepRow 33 = .ok (.aload_n 0, 1) := gz_d tdX1_stepRow_t0_ok 21 rfl
theorem dX1_stepRow_34 : decode cX1_stepRow 34 = .ok (.getfield 21, 3) := gz_d tdX1_stepRow_t0_ok 22 rfl
theorem dX1_stepRow_37 : decode cX1_stepRow 37 = .ok (.if_icmp .ge 18, 3) := gz_d tdX1_stepRow_t0_ok 23 rfl
theorem dX1_stepRow_40 : decode cX1_stepRow 40 = .ok (.aload_n 0, 1) := gz_d tdX1_stepRow_t0_ok 24 rfl
theorem dX1_stepRow_41 : decode cX1_stepRow 41 = .ok (.getfield 18, 3) := gz_d tdX1_stepRow_t0_ok 25 rfl
theorem dX1_stepRow_44 : decode cX1_stepRow 44 = .ok (.iload_n 3, 1) := gz_d tdX1_stepRow_t0_ok 26 rfl
theorem dX1_stepRow_45 : decode cX1_stepRow 45 = .ok (.iload_n 2, 1) := gz_d tdX1_stepRow_t0_ok 27 rfl
theorem dX1_stepRow_46 : decode cX1_stepRow 46 = .ok (.invokestatic 53, 3) := gz_d tdX1_stepRow_t0_ok 28 rfl
theorem dX1_stepRow_49 : decode cX1_stepRow 49 = .ok (.iinc 3 1, 3) := gz_d tdX1_stepRow_t0_ok 29 rfl
theorem dX1_stepRow_52 : decode cX1_stepRow 52 = .ok (.goto (-20), 3) := gz_d tdX1_stepRow_t0_ok 30 rfl
theorem dX1_stepRow_55 : decode cX1_stepRow 55 = .ok (.iconst 1, 1) := gz_d tdX1_stepRow_t0_ok 31 rfl
theorem dX1_stepRow_56 : decode cX1_stepRow 56 = .ok (.ireturn, 1) := gz_d tdX1_stepRow_t0_ok 32 rfl
theorem dX1_stepRow_57 : decode cX1_stepRow 57 = .ok (.iinc 1 (-1), 3) := gz_d tdX1_stepRow_t0_ok 33 rfl
theorem dX1_stepRow_60 : decode cX1_stepRow 60 = .ok (.goto (-53), 3) := gz_d tdX1_stepRow_t0_ok 34 rfl
theorem dX1_stepRow_63 : decode cX1_stepRow 63 = .ok (.iconst 0, 1) := gz_d tdX1_stepRow_t0_ok 35 rfl
theorem dX1_stepRow_64 : decode cX1_stepRow 64 = .ok (.ireturn, 1) := gz_d tdX1_stepRow_t0_ok 36 rfl
def tdX1_factorial_t0 : List (Nat × Instr × Nat) := [(0, .iconst 1, 1), (1, .istore_n 1, 1), (2, .iconst 2, 1), (3, .istore_n 2, 1), (4, .iload_n 2, 1), (5, .iload_n 0, 1), (6, .if_icmp .gt 13, 3), (9, .iload_n 1, 1), (10, .iload_n 2, 1), (11, .imul, 1), (12, .istore_n 1, 1), (13, .iinc 2 1, 3), (16, .goto (-12), 3), (19, .iload_n 1, 1), (20, .ireturn, 1)]
theorem tdX1_factorial_t0_ok : gz_dec cX1_factorial tdX1_factorial_t0 = true := by decide +kernel
theorem dX1_factorial_0 : decode cX1_factorial 0 = .ok (.iconst 1, 1) := gz_d tdX1_factorial_t0_ok 0 rfl
theorem dX1_factorial_1 : decode cX1_factorial 1 = .ok (.istore_n 1, 1) := gz_d tdX1_factorial_t0_ok 1 rfl
theorem dX1_factorial_2 : decode cX1_factorial 2 = .ok (.iconst 2, 1) := gz_d tdX1_factorial_t0_ok 2 rfl
theorem dX1_factorial_3 : decode cX1_factorial 3 = .ok (.istore_n 2, 1) := gz_d tdX1_factorial_t0_ok 3 rfl
theorem dX1_factorial_4 : decode cX1_factorial 4 = .ok (.iload_n 2, 1) := gz_d tdX1_factorial_t0_ok 4 rfl
theorem dX1_factorial_5 : decode cX1_factorial 5 = .ok (.iload_n 0, 1) := gz_d tdX1_factorial_t0_ok 5 rfl
theorem dX1_factorial_6 : decode cX1_factorial 6 = .ok (.if_icmp .gt 13, 3) := gz_d tdX1_factorial_t0_ok 6 rfl
theorem dX1_factorial_9 : decode cX1_factorial 9 = .ok (.iload_n 1, 1) := gz_d tdX1_factorial_t0_ok 7 rfl
theorem dX1_factorial_10 : decode cX1_factorial 10 = .ok (.iload_n 2, 1) := gz_d tdX1_factorial_t0_ok 8 rfl
theorem dX1_factorial_11 : decode cX1_factorial 11 = .ok (.imul, 1) := gz_d tdX1_factorial_t0_ok 9 rfl
theorem dX1_factorial_12 : decode cX1_factorial 12 = .ok (.istore_n 1, 1) := gz_d tdX1_factorial_t0_ok 10 rfl
theorem dX1_factorial_13 : decode cX1_factorial 13 = .ok (.iinc 2 1, 3) := gz_d tdX1_factorial_t0_ok 11 rfl
theorem dX1_factorial_16 : decode cX1_factorial 16 = .ok (.goto (-12), 3) := gz_d tdX1_factorial_t0_ok 12 rfl
theorem dX1_factorial_19 : decode cX1_factorial 19 = .ok (.iload_n 1, 1) := gz_d tdX1_factorial_t0_ok 13 rfl
theorem dX1_factorial_20 : decode cX1_factorial 20 = .ok (.ireturn, 1) := gz_d tdX1_factorial_t0_ok 14 rfl
def tdX1_spotOf_t0 : List (Nat × Instr × Nat) := [(0, .iload_n 0, 1), (1, .iconst 4, 1), (2, .imul, 1), (3, .iload_n 1, 1), (4, .iadd, 1), (5, .ireturn, 1)]
theorem tdX1_spotOf_t0_ok : gz_dec cX1_spotOf tdX1_spotOf_t0 = true := by decide +kernel
theorem dX1_spotOf_0 : decode cX1_spotOf 0 = .ok (.iload_n 0, 1) := gz_d tdX1_spotOf_t0_ok 0 rfl
theorem dX1_spotOf_1 : decode cX1_spotOf 1 = .ok (.iconst 4, 1) := gz_d tdX1_spotOf_t0_ok 1 rfl
theorem dX1_spotOf_2 : decode cX1_spotOf 2 = .ok (.imul, 1) := gz_d tdX1_spotOf_t0_ok 2 rfl
theorem dX1_spotOf_3 : decode cX1_spotOf 3 = .ok (.iload_n 1, 1) := gz_d tdX1_spotOf_t0_ok 3 rfl
theorem dX1_spotOf_4 : decode cX1_spotOf 4 = .ok (.iadd, 1) := gz_d tdX1_spotOf_t0_ok 4 rfl
theorem dX1_spotOf_5 : decode cX1_spotOf 5 = .ok (.ireturn, 1) := gz_d tdX1_spotOf_t0_ok 5 rfl
def tdX1_pipsOf_t0 : List (Nat × Instr × Nat) := [(0, .aload_n 0, 1), (1, .getfield 9, 3), (4, .iload_n 1, 1), (5, .iload_n 2, 1), (6, .invokestatic 49, 3), (9, .invokestatic 45, 3), (12, .ireturn, 1)]
theorem tdX1_pipsOf_t0_ok : gz_dec cX1_pipsOf tdX1_pipsOf_t0 = true := by decide +kernel
theorem dX1_pipsOf_0 : decode cX1_pipsOf 0 = .ok (.aload_n 0, 1) := gz_d tdX1_pipsOf_t0_ok 0 rfl
theorem dX1_pipsOf_1 : decode cX1_pipsOf 1 = .ok (.getfield 9, 3) := gz_d tdX1_pipsOf_t0_ok 1 rfl
theorem dX1_pipsOf_4 : decode cX1_pipsOf 4 = .ok (.iload_n 1, 1) := gz_d tdX1_pipsOf_t0_ok 2 rfl
theorem dX1_pipsOf_5 : decode cX1_pipsOf 5 = .ok (.iload_n 2, 1) := gz_d tdX1_pipsOf_t0_ok 3 rfl
theorem dX1_pipsOf_6 : decode cX1_pipsOf 6 = .ok (.invokestatic 49, 3) := gz_d tdX1_pipsOf_t0_ok 4 rfl
theorem dX1_pipsOf_9 : decode cX1_pipsOf 9 = .ok (.invokestatic 45, 3) := gz_d tdX1_pipsOf_t0_ok 5 rfl
theorem dX1_pipsOf_12 : decode cX1_pipsOf 12 = .ok (.ireturn, 1) := gz_d tdX1_pipsOf_t0_ok 6 rfl
def tdX1_waysOf_t0 : List (Nat × Instr × Nat) := [(0, .aload_n 0, 1), (1, .getfield 15, 3), (4, .iload_n 1, 1), (5, .invokestatic 45, 3), (8, .ireturn, 1)]
theorem tdX1_waysOf_t0_ok : gz_dec cX1_waysOf tdX1_waysOf_t0 = true := by decide +kernel
theorem dX1_waysOf_0 : decode cX1_waysOf 0 = .ok (.aload_n 0, 1) := gz_d tdX1_waysOf_t0_ok 0 rfl
theorem dX1_waysOf_1 : decode cX1_waysOf 1 = .ok (.getfield 15, 3) := gz_d tdX1_waysOf_t0_ok 1 rfl
theorem dX1_waysOf_4 : decode cX1_waysOf 4 = .ok (.iload_n 1, 1) := gz_d tdX1_waysOf_t0_ok 2 rfl
theorem dX1_waysOf_5 : decode cX1_waysOf 5 = .ok (.invokestatic 45, 3) := gz_d tdX1_waysOf_t0_ok 3 rfl
theorem dX1_waysOf_8 : decode cX1_waysOf 8 = .ok (.ireturn, 1) := gz_d tdX1_waysOf_t0_ok 4 rfl
def tdX1_allWays_t0 : List (Nat × Instr × Nat) := [(0, .iconst 1, 1), (1, .istore_n 1, 1), (2, .iconst 0, 1), (3, .istore_n 2, 1), (4, .iload_n 2, 1), (5, .aload_n 0, 1), (6, .getfield 21, 3), (9, .if_icmp .ge 16, 3), (12, .iload_n 1, 1), (13, .aload_n 0, 1), (14, .getfield 25, 3), (17, .imul, 1), (18, .istore_n 1, 1), (19, .iinc 2 1, 3), (22, .goto (-18), 3), (25, .iload_n 1, 1), (26, .ireturn, 1)]
theorem tdX1_allWays_t0_ok : gz_dec cX1_allWays tdX1_allWays_t0 = true := by decide +kernel
theorem dX1_allWays_0 : decode cX1_allWays 0 = .ok (.iconst 1, 1) := gz_d tdX1_allWays_t0_ok 0 rfl
theorem dX1_allWays_1 : decode cX1_allWays 1 = .ok (.istore_n 1, 1) := gz_d tdX1_allWays_t0_ok 1 rfl
theorem dX1_allWays_2 : decode cX1_allWays 2 = .ok (.iconst 0, 1) := gz_d tdX1_allWays_t0_ok 2 rfl
theorem dX1_allWays_3 : decode cX1_allWays 3 = .ok (.istore_n 2, 1) := gz_d tdX1_allWays_t0_ok 3 rfl
theorem dX1_allWays_4 : decode cX1_allWays 4 = .ok (.iload_n 2, 1) := gz_d tdX1_allWays_t0_ok 4 rfl
theorem dX1_allWays_5 : decode cX1_allWays 5 = .ok (.aload_n 0, 1) := gz_d tdX1_allWays_t0_ok 5 rfl
theorem dX1_allWays_6 : decode cX1_allWays 6 = .ok (.getfield 21, 3) := gz_d tdX1_allWays_t0_ok 6 rfl
theorem dX1_allWays_9 : decode cX1_allWays 9 = .ok (.if_icmp .ge 16, 3) := gz_d tdX1_allWays_t0_ok 7 rfl
theorem dX1_allWays_12 : decode cX1_allWays 12 = .ok (.iload_n 1, 1) := gz_d tdX1_allWays_t0_ok 8 rfl
theorem dX1_allWays_13 : decode cX1_allWays 13 = .ok (.aload_n 0, 1) := gz_d tdX1_allWays_t0_ok 9 rfl
theorem dX1_allWays_14 : decode cX1_allWays 14 = .ok (.getfield 25, 3) := gz_d tdX1_allWays_t0_ok 10 rfl
theorem dX1_allWays_17 : decode cX1_allWays 17 = .ok (.imul, 1) := gz_d tdX1_allWays_t0_ok 11 rfl
theorem dX1_allWays_18 : decode cX1_allWays 18 = .ok (.istore_n 1, 1) := gz_d tdX1_allWays_t0_ok 12 rfl
theorem dX1_allWays_19 : decode cX1_allWays 19 = .ok (.iinc 2 1, 3) := gz_d tdX1_allWays_t0_ok 13 rfl
theorem dX1_allWays_22 : decode cX1_allWays 22 = .ok (.goto (-18), 3) := gz_d tdX1_allWays_t0_ok 14 rfl
theorem dX1_allWays_25 : decode cX1_allWays 25 = .ok (.iload_n 1, 1) := gz_d tdX1_allWays_t0_ok 15 rfl
theorem dX1_allWays_26 : decode cX1_allWays 26 = .ok (.ireturn, 1) := gz_d tdX1_allWays_t0_ok 16 rfl
def tdX1_find_t0 : List (Nat × Instr × Nat) := [(0, .iconst 0, 1), (1, .istore_n 2, 1), (2, .iload_n 2, 1), (3, .aload_n 0, 1), (4, .getfield 28, 3), (7, .if_icmp .ge 20, 3), (10, .aload_n 0, 1), (11, .iload_n 2, 1), (12, .aload_n 1, 1), (13, .invokevirtual 67, 3), (16, .ifCond .eq 5, 3), (19, .iload_n 2, 1), (20, .ireturn, 1), (21, .iinc 2 1, 3), (24, .goto (-22), 3), (27, .iconst 0, 1), (28, .ireturn, 1)]
theorem tdX1_find_t0_ok : gz_dec cX1_find tdX1_find_t0 = true := by decide +kernel
theorem dX1_find_0 : decode cX1_find 0 = .ok (.iconst 0, 1) := gz_d tdX1_find_t0_ok 0 rfl
theorem dX1_find_1 : decode cX1_find 1 = .ok (.istore_n 2, 1) := gz_d tdX1_find_t0_ok 1 rfl
theorem dX1_find_2 : decode cX1_find 2 = .ok (.iload_n 2, 1) := gz_d tdX1_find_t0_ok 2 rfl
theorem dX1_find_3 : decode cX1_find 3 = .ok (.aload_n 0, 1) := gz_d tdX1_find_t0_ok 3 rfl
theorem dX1_find_4 : decode cX1_find 4 = .ok (.getfield 28, 3) := gz_d tdX1_find_t0_ok 4 rfl
theorem dX1_find_7 : decode cX1_find 7 = .ok (.if_icmp .ge 20, 3) := gz_d tdX1_find_t0_ok 5 rfl
theorem dX1_find_10 : decode cX1_find 10 = .ok (.aload_n 0, 1) := gz_d tdX1_find_t0_ok 6 rfl
theorem dX1_find_11 : decode cX1_find 11 = .ok (.iload_n 2, 1) := gz_d tdX1_find_t0_ok 7 rfl
theorem dX1_find_12 : decode cX1_find 12 = .ok (.aload_n 1, 1) := gz_d tdX1_find_t0_ok 8 rfl
theorem dX1_find_13 : decode cX1_find 13 = .ok (.invokevirtual 67, 3) := gz_d tdX1_find_t0_ok 9 rfl
theorem dX1_find_16 : decode cX1_find 16 = .ok (.ifCond .eq 5, 3) := gz_d tdX1_find_t0_ok 10 rfl
theorem dX1_find_19 : decode cX1_find 19 = .ok (.iload_n 2, 1) := gz_d tdX1_find_t0_ok 11 rfl
theorem dX1_find_20 : decode cX1_find 20 = .ok (.ireturn, 1) := gz_d tdX1_find_t0_ok 12 rfl
theorem dX1_find_21 : decode cX1_find 21 = .ok (.iinc 2 1, 3) := gz_d tdX1_find_t0_ok 13 rfl
theorem dX1_find_24 : decode cX1_find 24 = .ok (.goto (-22), 3) := gz_d tdX1_find_t0_ok 14 rfl
theorem dX1_find_27 : decode cX1_find 27 = .ok (.iconst 0, 1) := gz_d tdX1_find_t0_ok 15 rfl
theorem dX1_find_28 : decode cX1_find 28 = .ok (.ireturn, 1) := gz_d tdX1_find_t0_ok 16 rfl
def tdX1_isLike_t0 : List (Nat × Instr × Nat) := [(0, .iconst 0, 1), (1, .istore_n 3, 1), (2, .iload_n 3, 1), (3, .aload_n 0, 1), (4, .getfield 25, 3), (7, .if_icmp .ge 25, 3), (10, .aload_n 0, 1), (11, .iload_n 1, 1), (12, .iload_n 3, 1), (13, .invokevirtual 61, 3), (16, .aload_n 2, 1), (17, .iload_n 3, 1), (18, .invokestatic 45, 3), (21, .if_icmp .eq 5, 3), (24, .iconst 0, 1), (25, .ireturn, 1), (26, .iinc 3 1, 3), (29, .goto (-27), 3), (32, .iconst 1, 1), (33, .ireturn, 1)]
theorem tdX1_isLike_t0_ok : gz_dec cX1_isLike tdX1_isLike_t0 = true := by decide +kernel
theorem dX1_isLike_0 : decode cX1_isLike 0 = .ok (.iconst 0, 1) := gz_d tdX1_isLike_t0_ok 0 rfl
theorem dX1_isLike_1 : decode cX1_isLike 1 = .ok (.istore_n 3, 1) := gz_d tdX1_isLike_t0_ok 1 rfl
theorem dX1_isLike_2 : decode cX1_isLike 2 = .ok (.iload_n 3, 1) := gz_d tdX1_isLike_t0_ok 2 rfl
theorem dX1_isLike_3 : decode cX1_isLike 3 = .ok (.aload_n 0, 1) := gz_d tdX1_isLike_t0_ok 3 rfl
theorem dX1_isLike_4 : decode cX1_isLike 4 = .ok (.getfield 25, 3) := gz_d tdX1_isLike_t0_ok 4 rfl
theorem dX1_isLike_7 : decode cX1_isLike 7 = .ok (.if_icmp .ge 25, 3) := gz_d tdX1_isLike_t0_ok 5 rfl
theorem dX1_isLike_10 : decode cX1_isLike 10 = .ok (.aload_n 0, 1) := gz_d tdX1_isLike_t0_ok 6 rfl
theorem dX1_isLike_11 : decode cX1_isLike 11 = .ok (.iload_n 1, 1) := gz_d tdX1_isLike_t0_ok 7 rfl
theorem dX1_isLike_12 : decode cX1_isLike 12 = .ok (.iload_n 3, 1) := gz_d tdX1_isLike_t0_ok 8 rfl
theorem dX1_isLike_13 : decode cX1_isLike 13 = .ok (.invokevirtual 61, 3) := gz_d tdX1_isLike_t0_ok 9 rfl
theorem dX1_isLike_16 : decode cX1_isLike 16 = .ok (.aload_n 2, 1) := gz_d tdX1_isLike_t0_ok 10 rfl
theorem dX1_isLike_17 : decode cX1_isLike 17 = .ok (.iload_n 3, 1) := gz_d tdX1_isLike_t0_ok 11 rfl
theorem dX1_isLike_18 : decode cX1_isLike 18 = .ok (.invokestatic 45, 3) := gz_d tdX1_isLike_t0_ok 12 rfl
theorem dX1_isLike_21 : decode cX1_isLike 21 = .ok (.if_icmp .eq 5, 3) := gz_d tdX1_isLike_t0_ok 13 rfl
theorem dX1_isLike_24 : decode cX1_isLike 24 = .ok (.iconst 0, 1) := gz_d tdX1_isLike_t0_ok 14 rfl
theorem dX1_isLike_25 : decode cX1_isLike 25 = .ok (.ireturn, 1) := gz_d tdX1_isLike_t0_ok 15 rfl
theorem dX1_isLike_26 : decode cX1_isLike 26 = .ok (.iinc 3 1, 3) := gz_d tdX1_isLike_t0_ok 16 rfl
theorem dX1_isLike_29 : decode cX1_isLike 29 = .ok (.goto (-27), 3) := gz_d tdX1_isLike_t0_ok 17 rfl
theorem dX1_isLike_32 : decode cX1_isLike 32 = .ok (.iconst 1, 1) := gz_d tdX1_isLike_t0_ok 18 rfl
theorem dX1_isLike_33 : decode cX1_isLike 33 = .ok (.ireturn, 1) := gz_d tdX1_isLike_t0_ok 19 rfl
def tdX2_init_t0 : List (Nat × Instr × Nat) := [(0, .aload_n 0, 1), (1, .invokespecial 3, 3), (4, .aload_n 0, 1), (5, .iconst 4, 1), (6, .newarray .int, 2), (8, .putfield 9, 3), (11, .aload_n 0, 1), (12, .iconst (-1), 1), (13, .putfield 15, 3), (16, .aload_n 0, 1), (17, .iconst (-1), 1), (18, .putfield 19, 3), (21, .aload_n 0, 1), (22, .iconst (-1), 1), (23, .putfield 22, 3), (26, .aload_n 0, 1), (27, .aload_n 1, 1), (28, .putfield 25, 3), (31, .return_, 1)]
theorem tdX2_init_t0_ok : gz_dec cX2_init tdX2_init_t0 = true := by decide +kernel
theorem dX2_init_0 : decode cX2_init 0 = .ok (.aload_n 0, 1) := gz_d tdX2_init_t0_ok 0 rfl
theorem dX2_init_1 : decode cX2_init 1 = .ok (.invokespecial 3, 3) := gz_d tdX2_init_t0_ok 1 rfl
theorem dX2_init_4 : decode cX2_init 4 = .ok (.aload_n 0, 1) := gz_d tdX2_init_t0_ok 2 rfl
theorem dX2_init_5 : decode cX2_init 5 = .ok (.iconst 4, 1) := gz_d tdX2_init_t0_ok 3 rfl
theorem dX2_init_6 : decode cX2_init 6 = .ok (.newarray .int, 2) := gz_d tdX2_init_t0_ok 4 rfl
theorem dX2_init_8 : decode cX2_init 8 = .ok (.putfield 9, 3) := gz_d tdX2_init_t0_ok 5 rfl
theorem dX2_init_11 : decode cX2_init 11 = .ok (.aload_n 0, 1) := gz_d tdX2_init_t0_ok 6 rfl
theorem dX2_init_12 : decode cX2_init 12 = .ok (.iconst (-1), 1) := gz_d tdX2_init_t0_ok 7 rfl
theorem dX2_init_13 : decode cX2_init 13 = .ok (.putfield 15, 3) := gz_d tdX2_init_t0_ok 8 rfl
theorem dX2_init_16 : decode cX2_init 16 = .ok (.aload_n 0, 1) := gz_d tdX2_init_t0_ok 9 rfl
theorem dX2_init_17 : decode cX2_init 17 = .ok (.iconst (-1), 1) := gz_d tdX2_init_t0_ok 10 rfl
theorem dX2_init_18 : decode cX2_init 18 = .ok (.putfield 19, 3) := gz_d tdX2_init_t0_ok 11 rfl
theorem dX2_init_21 : decode cX2_init 21 = .ok (.aload_n 0, 1) := gz_d tdX2_init_t0_ok 12 rfl
theorem dX2_init_22 : decode cX2_init 22 = .ok (.iconst (-1), 1) := gz_d tdX2_init_t0_ok 13 rfl
theorem dX2_init_23 : decode cX2_init 23 = .ok (.putfield 22, 3) := gz_d tdX2_init_t0_ok 14 rfl
theorem dX2_init_26 : decode cX2_init 26 = .ok (.aload_n 0, 1) := gz_d tdX2_init_t0_ok 15 rfl
theorem dX2_init_27 : decode cX2_init 27 = .ok (.aload_n 1, 1) := gz_d tdX2_init_t0_ok 16 rfl
theorem dX2_init_28 : decode cX2_init 28 = .ok (.putfield 25, 3) := gz_d tdX2_init_t0_ok 17 rfl
theorem dX2_init_31 : decode cX2_init 31 = .ok (.return_, 1) := gz_d tdX2_init_t0_ok 18 rfl
def tdX2_forget_t0 : List (Nat × Instr × Nat) := [(0, .aload_n 0, 1), (1, .iconst 0, 1), (2, .putfield 29, 3), (5, .return_, 1)]
theorem tdX2_forget_t0_ok : gz_dec cX2_forget tdX2_forget_t0 = true := by decide +kernel
theorem dX2_forget_0 : decode cX2_forget 0 = .ok (.aload_n 0, 1) := gz_d tdX2_forget_t0_ok 0 rfl
theorem dX2_forget_1 : decode cX2_forget 1 = .ok (.iconst 0, 1) := gz_d tdX2_forget_t0_ok 1 rfl
theorem dX2_forget_2 : decode cX2_forget 2 = .ok (.putfield 29, 3) := gz_d tdX2_forget_t0_ok 2 rfl
theorem dX2_forget_5 : decode cX2_forget 5 = .ok (.return_, 1) := gz_d tdX2_forget_t0_ok 3 rfl
def tdX2_begin_t0 : List (Nat × Instr × Nat) := [(0, .aload_n 0, 1), (1, .iload_n 1, 1), (2, .putfield 33, 3), (5, .aload_n 0, 1), (6, .aload_n 0, 1), (7, .aload_n 0, 1), (8, .getfield 25, 3), (11, .iconst 0, 1), (12, .invokevirtual 36, 3), (15, .invokevirtual 42, 3), (18, .putfield 46, 3), (21, .aload_n 0, 1), (22, .aload_n 0, 1), (23, .aload_n 0, 1), (24, .getfield 25, 3), (27, .iconst 1, 1), (28, .invokevirtual 36, 3), (31, .invokevirtual 42, 3), (34, .putfield 49, 3), (37, .aload_n 0, 1), (38, .iconst 1, 1), (39, .putfield 29, 3), (42, .aload_n 0, 1), (43, .iconst 0, 1), (44, .putfield 15, 3), (47, .aload_n 0, 1), (48, .iconst (-1), 1), (49, .putfield 19, 3), (52, .aload_n 0, 1), (53, .iconst 0, 1), (54, .putfield 52, 3), (57, .aload_n 0, 1), (58, .iconst (-1), 1), (59, .putfield 22, 3), (62, .return_, 1)]
theorem tdX2_begin_t0_ok : gz_dec cX2_begin tdX2_begin_t0 = true := by decide +kernel
theorem dX2_begin_0 : decode cX2_begin 0 = .ok (.aload_n 0, 1) := gz_d tdX2_begin_t0_ok 0 rfl
theorem dX2_begin_1 : decode cX2_begin 1 = .ok (.iload_n 1, 1) := gz_d tdX2_begin_t0_ok 1 rfl
theorem dX2_begin_2 : decode cX2_begin 2 = .ok (.putfield 33, 3) := gz_d tdX2_begin_t0_ok 2 rfl
theorem dX2_begin_5 : decode cX2_begin 5 = .ok (.aload_n 0, 1) := gz_d tdX2_begin_t0_ok 3 rfl
theorem dX2_begin_6 : decode cX2_begin 6 = .ok (.aload_n 0, 1) := gz_d tdX2_begin_t0_ok 4 rfl
theorem dX2_begin_7 : decode cX2_begin 7 = .ok (.aload_n 0, 1) := gz_d tdX2_begin_t0_ok 5 rfl
theorem dX2_begin_8 : decode cX2_begin 8 = .ok (.getfield 25, 3) := gz_d tdX2_begin_t0_ok 6 rfl
theorem dX2_begin_11 : decode cX2_begin 11 = .ok (.iconst 0, 1) := gz_d tdX2_begin_t0_ok 7 rfl
theorem dX2_begin_12 : decode cX2_begin 12 = .ok (.invokevirtual 36, 3) := gz_d tdX2_begin_t0_ok 8 rfl
theorem dX2_begin_15 : decode cX2_begin 15 = .ok (.invokevirtual 42, 3) := gz_d tdX2_begin_t0_ok 9 rfl
theorem dX2_begin_18 : decode cX2_begin 18 = .ok (.putfield 46, 3) := gz_d tdX2_begin_t0_ok 10 rfl
theorem dX2_begin_21 : decode cX2_begin 21 = .ok (.aload_n 0, 1) := gz_d tdX2_begin_t0_ok 11 rfl
theorem dX2_begin_22 : decode cX2_begin 22 = .ok (.aload_n 0, 1) := gz_d tdX2_begin_t0_ok 12 rfl
theorem dX2_begin_23 : decode cX2_begin 23 = .ok (.aload_n 0, 1) := gz_d tdX2_begin_t0_ok 13 rfl
theorem dX2_begin_24 : decode cX2_begin 24 = .ok (.getfield 25, 3) := gz_d tdX2_begin_t0_ok 14 rfl
theorem dX2_begin_27 : decode cX2_begin 27 = .ok (.iconst 1, 1) := gz_d tdX2_begin_t0_ok 15 rfl
theorem dX2_begin_28 : decode cX2_begin 28 = .ok (.invokevirtual 36, 3) := gz_d tdX2_begin_t0_ok 16 rfl
theorem dX2_begin_31 : decode cX2_begin 31 = .ok (.invokevirtual 42, 3) := gz_d tdX2_begin_t0_ok 17 rfl
theorem dX2_begin_34 : decode cX2_begin 34 = .ok (.putfield 49, 3) := gz_d tdX2_begin_t0_ok 18 rfl
theorem dX2_begin_37 : decode cX2_begin 37 = .ok (.aload_n 0, 1) := gz_d tdX2_begin_t0_ok 19 rfl
theorem dX2_begin_38 : decode cX2_begin 38 = .ok (.iconst 1, 1) := gz_d tdX2_begin_t0_ok 20 rfl
theorem dX2_begin_39 : decode cX2_begin 39 = .ok (.putfield 29, 3) := gz_d tdX2_begin_t0_ok 21 rfl
theorem dX2_begin_42 : decode cX2_begin 42 = .ok (.aload_n 0, 1) := gz_d tdX2_begin_t0_ok 22 rfl
theorem dX2_begin_43 : decode cX2_begin 43 = .ok (.iconst 0, 1) := gz_d tdX2_begin_t0_ok 23 rfl
theorem dX2_begin_44 : decode cX2_begin 44 = .ok (.putfield 15, 3) := gz_d tdX2_begin_t0_ok 24 rfl
theorem dX2_begin_47 : decode cX2_begin 47 = .ok (.aload_n 0, 1) := gz_d tdX2_begin_t0_ok 25 rfl
theorem dX2_begin_48 : decode cX2_begin 48 = .ok (.iconst (-1), 1) := gz_d tdX2_begin_t0_ok 26 rfl
theorem dX2_begin_49 : decode cX2_begin 49 = .ok (.putfield 19, 3) := gz_d tdX2_begin_t0_ok 27 rfl
theorem dX2_begin_52 : decode cX2_begin 52 = .ok (.aload_n 0, 1) := gz_d tdX2_begin_t0_ok 28 rfl
theorem dX2_begin_53 : decode cX2_begin 53 = .ok (.iconst 0, 1) := gz_d tdX2_begin_t0_ok 29 rfl
theorem dX2_begin_54 : decode cX2_begin 54 = .ok (.putfield 52, 3) := gz_d tdX2_begin_t0_ok 30 rfl
theorem dX2_begin_57 : decode cX2_begin 57 = .ok (.aload_n 0, 1) := gz_d tdX2_begin_t0_ok 31 rfl
theorem dX2_begin_58 : decode cX2_begin 58 = .ok (.iconst (-1), 1) := gz_d tdX2_begin_t0_ok 32 rfl
theorem dX2_begin_59 : decode cX2_begin 59 = .ok (.putfield 22, 3) := gz_d tdX2_begin_t0_ok 33 rfl
theorem dX2_begin_62 : decode cX2_begin 62 = .ok (.return_, 1) := gz_d tdX2_begin_t0_ok 34 rfl
def tdX2_draw_t0 : List (Nat × Instr × Nat) := [(0, .aload_n 0, 1), (1, .getfield 9, 3), (4, .iconst 0, 1), (5, .invokestatic 55, 3), (8, .iconst 0, 1), (9, .istore_n 2, 1), (10, .iload_n 2, 1), (11, .aload_n 1, 1), (12, .getfield 61, 3), (15, .if_icmp .ge 60, 3), (18, .aload_n 0, 1), (19, .aload_n 0, 1), (20, .getfield 33, 3), (23, .ldc 66, 2), (25, .imul, 1), (26, .sipush 12345, 3), (29, .iadd, 1), (30, .ldc 67, 2), (32, .iand, 1), (33, .putfield 33, 3), (36, .aload_n 0, 1), (37, .getfield 33, 3), (40, .ldc 68, 2), (42, .idiv, 1), (43, .aload_n 1, 1), (44, .getfield 69, 3), (47, .invokestatic 72, 3), (50, .istore_n 3, 1), (51, .aload_n 0, 1), (52, .getfield 9, 3), (55, .iload_n 3, 1), (56, .aload_n 0, 1), (57, .getfield 9, 3), (60, .iload_n 3, 1), (61, .invokestatic 76, 3), (64, .iconst 1, 1), (65, .iadd, 1), (66, .invokestatic 80, 3), (69, .iinc 2 1, 3), (72, .goto (-62), 3), (75, .aload_n 1, 1), (76, .aload_n 0, 1), (77, .getfield 9, 3), (80, .invokevirtual 84, 3), (83, .ireturn, 1)]
theorem tdX2_draw_t0_ok : gz_dec cX2_draw tdX2_draw_t0 = true := by decide +kernel
theorem dX2_draw_0 : decode cX2_draw 0 = .ok (.aload_n 0, 1) := gz_d tdX2_draw_t0_ok 0 rfl
theorem dX2_draw_1 : decode cX2_draw 1 = .ok (.getfield 9, 3) := gz_d tdX2_draw_t0_ok 1 rfl
theorem dX2_draw_4 : decode cX2_draw 4 = .ok (.iconst 0, 1) := gz_d tdX2_draw_t0_ok 2 rfl
theorem dX2_draw_5 : decode cX2_draw 5 = .ok (.invokestatic 55, 3) := gz_d tdX2_draw_t0_ok 3 rfl
theorem dX2_draw_8 : decode cX2_draw 8 = .ok (.iconst 0, 1) := gz_d tdX2_draw_t0_ok 4 rfl
theorem dX2_draw_9 : decode cX2_draw 9 = .ok (.istore_n 2, 1) := gz_d tdX2_draw_t0_ok 5 rfl
theorem dX2_draw_10 : decode cX2_draw 10 = .ok (.iload_n 2, 1) := gz_d tdX2_draw_t0_ok 6 rfl
theorem dX2_draw_11 : decode cX2_draw 11 = .ok (.aload_n 1, 1) := gz_d tdX2_draw_t0_ok 7 rfl
theorem dX2_draw_12 : decode cX2_draw 12 = .ok (.getfield 61, 3) := gz_d tdX2_draw_t0_ok 8 rfl
theorem dX2_draw_15 : decode cX2_draw 15 = .ok (.if_icmp .ge 60, 3) := gz_d tdX2_draw_t0_ok 9 rfl
theorem dX2_draw_18 : decode cX2_draw 18 = .ok (.aload_n 0, 1) := gz_d tdX2_draw_t0_ok 10 rfl
theorem dX2_draw_19 : decode cX2_draw 19 = .ok (.aload_n 0, 1) := gz_d tdX2_draw_t0_ok 11 rfl
theorem dX2_draw_20 : decode cX2_draw 20 = .ok (.getfield 33, 3) := gz_d tdX2_draw_t0_ok 12 rfl
theorem dX2_draw_23 : decode cX2_draw 23 = .ok (.ldc 66, 2) := gz_d tdX2_draw_t0_ok 13 rfl
theorem dX2_draw_25 : decode cX2_draw 25 = .ok (.imul, 1) := gz_d tdX2_draw_t0_ok 14 rfl
theorem dX2_draw_26 : decode cX2_draw 26 = .ok (.sipush 12345, 3) := gz_d tdX2_draw_t0_ok 15 rfl
theorem dX2_draw_29 : decode cX2_draw 29 = .ok (.iadd, 1) := gz_d tdX2_draw_t0_ok 16 rfl
theorem dX2_draw_30 : decode cX2_draw 30 = .ok (.ldc 67, 2) := gz_d tdX2_draw_t0_ok 17 rfl
theorem dX2_draw_32 : decode cX2_draw 32 = .ok (.iand, 1) := gz_d tdX2_draw_t0_ok 18 rfl
theorem dX2_draw_33 : decode cX2_draw 33 = .ok (.putfield 33, 3) := gz_d tdX2_draw_t0_ok 19 rfl
theorem dX2_draw_36 : decode cX2_draw 36 = .ok (.aload_n 0, 1) := gz_d tdX2_draw_t0_ok 20 rfl
theorem dX2_draw_37 : decode cX2_draw 37 = .ok (.getfield 33, 3) := gz_d tdX2_draw_t0_ok 21 rfl
theorem dX2_draw_40 : decode cX2_draw 40 = .ok (.ldc 68, 2) := gz_d tdX2_draw_t0_ok 22 rfl
theorem dX2_draw_42 : decode cX2_draw 42 = .ok (.idiv, 1) := gz_d tdX2_draw_t0_ok 23 rfl
theorem dX2_draw_43 : decode cX2_draw 43 = .ok (.aload_n 1, 1) := gz_d tdX2_draw_t0_ok 24 rfl
theorem dX2_draw_44 : decode cX2_draw 44 = .ok (.getfield 69, 3) := gz_d tdX2_draw_t0_ok 25 rfl
theorem dX2_draw_47 : decode cX2_draw 47 = .ok (.invokestatic 72, 3) := gz_d tdX2_draw_t0_ok 26 rfl
theorem dX2_draw_50 : decode cX2_draw 50 = .ok (.istore_n 3, 1) := gz_d tdX2_draw_t0_ok 27 rfl
theorem dX2_draw_51 : decode cX2_draw 51 = .ok (.aload_n 0, 1) := gz_d tdX2_draw_t0_ok 28 rfl
theorem dX2_draw_52 : decode cX2_draw 52 = .ok (.getfield 9, 3) := gz_d tdX2_draw_t0_ok 29 rfl
theorem dX2_draw_55 : decode cX2_draw 55 = .ok (.iload_n 3, 1) := gz_d tdX2_draw_t0_ok 30 rfl
theorem dX2_draw_56 : decode cX2_draw 56 = .ok (.aload_n 0, 1) := gz_d tdX2_draw_t0_ok 31 rfl
theorem dX2_draw_57 : decode cX2_draw 57 = .ok (.getfield 9, 3) := gz_d tdX2_draw_t0_ok 32 rfl
theorem dX2_draw_60 : decode cX2_draw 60 = .ok (.iload_n 3, 1) := gz_d tdX2_draw_t0_ok 33 rfl
theorem dX2_draw_61 : decode cX2_draw 61 = .ok (.invokestatic 76, 3) := gz_d tdX2_draw_t0_ok 34 rfl
theorem dX2_draw_64 : decode cX2_draw 64 = .ok (.iconst 1, 1) := gz_d tdX2_draw_t0_ok 35 rfl
theorem dX2_draw_65 : decode cX2_draw 65 = .ok (.iadd, 1) := gz_d tdX2_draw_t0_ok 36 rfl
theorem dX2_draw_66 : decode cX2_draw 66 = .ok (.invokestatic 80, 3) := gz_d tdX2_draw_t0_ok 37 rfl
theorem dX2_draw_69 : decode cX2_draw 69 = .ok (.iinc 2 1, 3) := gz_d tdX2_draw_t0_ok 38 rfl
theorem dX2_draw_72 : decode cX2_draw 72 = .ok (.goto (-62), 3) := gz_d tdX2_draw_t0_ok 39 rfl
theorem dX2_draw_75 : decode cX2_draw 75 = .ok (.aload_n 1, 1) := gz_d tdX2_draw_t0_ok 40 rfl
theorem dX2_draw_76 : decode cX2_draw 76 = .ok (.aload_n 0, 1) := gz_d tdX2_draw_t0_ok 41 rfl
theorem dX2_draw_77 : decode cX2_draw 77 = .ok (.getfield 9, 3) := gz_d tdX2_draw_t0_ok 42 rfl
theorem dX2_draw_80 : decode cX2_draw 80 = .ok (.invokevirtual 84, 3) := gz_d tdX2_draw_t0_ok 43 rfl
theorem dX2_draw_83 : decode cX2_draw 83 = .ok (.ireturn, 1) := gz_d tdX2_draw_t0_ok 44 rfl
def tdX2_handOf_t0 : List (Nat × Instr × Nat) := [(0, .iload_n 1, 1), (1, .ifCond .ne 10, 3), (4, .aload_n 0, 1), (5, .getfield 46, 3), (8, .goto 7, 3), (11, .aload_n 0, 1), (12, .getfield 49, 3), (15, .ireturn, 1)]
theorem tdX2_handOf_t0_ok : gz_dec cX2_handOf tdX2_handOf_t0 = true := by decide +kernel
theorem dX2_handOf_0 : decode cX2_handOf 0 = .ok (.iload_n 1, 1) := gz_d tdX2_handOf_t0_ok 0 rfl
theorem dX2_handOf_1 : decode cX2_handOf 1 = .ok (.ifCond .ne 10, 3) := gz_d tdX2_handOf_t0_ok 1 rfl
theorem dX2_handOf_4 : decode cX2_handOf 4 = .ok (.aload_n 0, 1) := gz_d tdX2_handOf_t0_ok 2 rfl
theorem dX2_handOf_5 : decode cX2_handOf 5 = .ok (.getfield 46, 3) := gz_d tdX2_handOf_t0_ok 3 rfl
theorem dX2_handOf_8 : decode cX2_handOf 8 = .ok (.goto 7, 3) := gz_d tdX2_handOf_t0_ok 4 rfl
theorem dX2_handOf_11 : decode cX2_handOf 11 = .ok (.aload_n 0, 1) := gz_d tdX2_handOf_t0_ok 5 rfl
theorem dX2_handOf_12 : decode cX2_handOf 12 = .ok (.getfield 49, 3) := gz_d tdX2_handOf_t0_ok 6 rfl
theorem dX2_handOf_15 : decode cX2_handOf 15 = .ok (.ireturn, 1) := gz_d tdX2_handOf_t0_ok 7 rfl
def tdX2_goesOn_t0 : List (Nat × Instr × Nat) := [(0, .aload_n 0, 1), (1, .getfield 29, 3), (4, .ifCond .eq 15, 3), (7, .aload_n 0, 1), (8, .getfield 15, 3), (11, .iconst (-1), 1), (12, .if_icmp .eq 7, 3), (15, .iconst 1, 1), (16, .goto 4, 3), (19, .iconst 0, 1), (20, .ireturn, 1)]
theorem tdX2_goesOn_t0_ok : gz_dec cX2_goesOn tdX2_goesOn_t0 = true := by decide +kernel
theorem dX2_goesOn_0 : decode cX2_goesOn 0 = .ok (.aload_n 0, 1) := gz_d tdX2_goesOn_t0_ok 0 rfl
theorem dX2_goesOn_1 : decode cX2_goesOn 1 = .ok (.getfield 29, 3) := gz_d tdX2_goesOn_t0_ok 1 rfl
theorem dX2_goesOn_4 : decode cX2_goesOn 4 = .ok (.ifCond .eq 15, 3) := gz_d tdX2_goesOn_t0_ok 2 rfl
theorem dX2_goesOn_7 : decode cX2_goesOn 7 = .ok (.aload_n 0, 1) := gz_d tdX2_goesOn_t0_ok 3 rfl
theorem dX2_goesOn_8 : decode cX2_goesOn 8 = .ok (.getfield 15, 3) := gz_d tdX2_goesOn_t0_ok 4 rfl
theorem dX2_goesOn_11 : decode cX2_goesOn 11 = .ok (.iconst (-1), 1) := gz_d tdX2_goesOn_t0_ok 5 rfl
theorem dX2_goesOn_12 : decode cX2_goesOn 12 = .ok (.if_icmp .eq 7, 3) := gz_d tdX2_goesOn_t0_ok 6 rfl
theorem dX2_goesOn_15 : decode cX2_goesOn 15 = .ok (.iconst 1, 1) := gz_d tdX2_goesOn_t0_ok 7 rfl
theorem dX2_goesOn_16 : decode cX2_goesOn 16 = .ok (.goto 4, 3) := gz_d tdX2_goesOn_t0_ok 8 rfl
theorem dX2_goesOn_19 : decode cX2_goesOn 19 = .ok (.iconst 0, 1) := gz_d tdX2_goesOn_t0_ok 9 rfl
theorem dX2_goesOn_20 : decode cX2_goesOn 20 = .ok (.ireturn, 1) := gz_d tdX2_goesOn_t0_ok 10 rfl
def tdX2_bid_t0 : List (Nat × Instr × Nat) := [(0, .aload_n 0, 1), (1, .iload_n 1, 1), (2, .putfield 19, 3), (5, .aload_n 0, 1), (6, .dup, 1), (7, .getfield 52, 3), (10, .iconst 1, 1), (11, .iadd, 1), (12, .putfield 52, 3), (15, .aload_n 0, 1), (16, .iconst 1, 1), (17, .aload_n 0, 1), (18, .getfield 15, 3), (21, .isub, 1), (22, .putfield 15, 3), (25, .return_, 1)]
theorem tdX2_bid_t0_ok : gz_dec cX2_bid tdX2_bid_t0 = true := by decide +kernel
theorem dX2_bid_0 : decode cX2_bid 0 = .ok (.aload_n 0, 1) := gz_d tdX2_bid_t0_ok 0 rfl
theorem dX2_bid_1 : decode cX2_bid 1 = .ok (.iload_n 1, 1) := gz_d tdX2_bid_t0_ok 1 rfl
theorem dX2_bid_2 : decode cX2_bid 2 = .ok (.putfield 19, 3) := gz_d tdX2_bid_t0_ok 2 rfl
theorem dX2_bid_5 : decode cX2_bid 5 = .ok (.aload_n 0, 1) := gz_d tdX2_bid_t0_ok 3 rfl
theorem dX2_bid_6 : decode cX2_bid 6 = .ok (.dup, 1) := gz_d tdX2_bid_t0_ok 4 rfl
theorem dX2_bid_7 : decode cX2_bid 7 = .ok (.getfield 52, 3) := gz_d tdX2_bid_t0_ok 5 rfl
theorem dX2_bid_10 : decode cX2_bid 10 = .ok (.iconst 1, 1) := gz_d tdX2_bid_t0_ok 6 rfl
theorem dX2_bid_11 : decode cX2_bid 11 = .ok (.iadd, 1) := gz_d tdX2_bid_t0_ok 7 rfl
theorem dX2_bid_12 : decode cX2_bid 12 = .ok (.putfield 52, 3) := gz_d tdX2_bid_t0_ok 8 rfl
theorem dX2_bid_15 : decode cX2_bid 15 = .ok (.aload_n 0, 1) := gz_d tdX2_bid_t0_ok 9 rfl
theorem dX2_bid_16 : decode cX2_bid 16 = .ok (.iconst 1, 1) := gz_d tdX2_bid_t0_ok 10 rfl
theorem dX2_bid_17 : decode cX2_bid 17 = .ok (.aload_n 0, 1) := gz_d tdX2_bid_t0_ok 11 rfl
theorem dX2_bid_18 : decode cX2_bid 18 = .ok (.getfield 15, 3) := gz_d tdX2_bid_t0_ok 12 rfl
theorem dX2_bid_21 : decode cX2_bid 21 = .ok (.isub, 1) := gz_d tdX2_bid_t0_ok 13 rfl
theorem dX2_bid_22 : decode cX2_bid 22 = .ok (.putfield 15, 3) := gz_d tdX2_bid_t0_ok 14 rfl
theorem dX2_bid_25 : decode cX2_bid 25 = .ok (.return_, 1) := gz_d tdX2_bid_t0_ok 15 rfl
def tdX2_end_t0 : List (Nat × Instr × Nat) := [(0, .aload_n 0, 1), (1, .aload_n 0, 1), (2, .getfield 25, 3), (5, .aload_n 0, 1), (6, .getfield 46, 3), (9, .aload_n 0, 1), (10, .getfield 49, 3), (13, .aload_n 0, 1), (14, .getfield 19, 3), (17, .invokevirtual 88, 3), (20, .ifCond .eq 12, 3), (23, .iconst 1, 1), (24, .aload_n 0, 1), (25, .getfield 15, 3), (28, .isub, 1), (29, .goto 7, 3), (32, .aload_n 0, 1), (33, .getfield 15, 3), (36, .putfield 22, 3), (39, .aload_n 0, 1), (40, .iconst (-1), 1), (41, .putfield 15, 3), (44, .aload_n 0, 1), (45, .getfield 22, 3), (48, .ifCond .ne 16, 3), (51, .aload_n 0, 1), (52, .dup, 1), (53, .getfield 92, 3), (56, .iconst 1, 1), (57, .iadd, 1), (58, .putfield 92, 3), (61, .goto 13, 3), (64, .aload_n 0, 1), (65, .dup, 1), (66, .getfield 95, 3), (69, .iconst 1, 1), (70, .iadd, 1), (71, .putfield 95, 3), (74, .return_, 1)]
theorem tdX2_end_t0_ok : gz_dec cX2_end tdX2_end_t0 = true := by decide +kernel
theorem dX2_end_0 : decode cX2_end 0 = .ok (.aload_n 0, 1) := gz_d tdX2_end_t0_ok 0 rfl
theorem dX2_end_1 : decode cX2_end 1 = .ok (.aload_n 0, 1) := gz_d tdX2_end_t0_ok 1 rfl
theorem dX2_end_2 : decode cX2_end 2 = .ok (.getfield 25, 3) := gz_d tdX2_end_t0_ok 2 rfl
theorem dX2_end_5 : decode cX2_end 5 = .ok (.aload_n 0, 1) := gz_d tdX2_end_t0_ok 3 rfl
theorem dX2_end_6 : decode cX2_end 6 = .ok (.getfield 46, 3) := gz_d tdX2_end_t0_ok 4 rfl
theorem dX2_end_9 : decode cX2_end 9 = .ok (.aload_n 0, 1) := gz_d tdX2_end_t0_ok 5 rfl
theorem dX2_end_10 : decode cX2_end 10 = .ok (.getfield 49, 3) := gz_d tdX2_end_t0_ok 6 rfl
theorem dX2_end_13 : decode cX2_end 13 = .ok (.aload_n 0, 1) := gz_d tdX2_end_t0_ok 7 rfl
theorem dX2_end_14 : decode cX2_end 14 = .ok (.getfield 19, 3) := gz_d tdX2_end_t0_ok 8 rfl
theorem dX2_end_17 : decode cX2_end 17 = .ok (.invokevirtual 88, 3) := gz_d tdX2_end_t0_ok 9 rfl
theorem dX2_end_20 : decode cX2_end 20 = .ok (.ifCond .eq 12, 3) := gz_d tdX2_end_t0_ok 10 rfl
theorem dX2_end_23 : decode cX2_end 23 = .ok (.iconst 1, 1) := gz_d tdX2_end_t0_ok 11 rfl
theorem dX2_end_24 : decode cX2_end 24 = .ok (.aload_n 0, 1) := gz_d tdX2_end_t0_ok 12 rfl
theorem dX2_end_25 : decode cX2_end 25 = .ok (.getfield 15, 3) := gz_d tdX2_end_t0_ok 13 rfl
theorem dX2_end_28 : decode cX2_end 28 = .ok (.isub, 1) := gz_d tdX2_end_t0_ok 14 rfl
theorem dX2_end_29 : decode cX2_end 29 = .ok (.goto 7, 3) := gz_d tdX2_end_t0_ok 15 rfl
theorem dX2_end_32 : decode cX2_end 32 = .ok (.aload_n 0, 1) := gz_d tdX2_end_t0_ok 16 rfl
theorem dX2_end_33 : decode cX2_end 33 = .ok (.getfield 15, 3) := gz_d tdX2_end_t0_ok 17 rfl
theorem dX2_end_36 : decode cX2_end 36 = .ok (.putfield 22, 3) := gz_d tdX2_end_t0_ok 18 rfl
theorem dX2_end_39 : decode cX2_end 39 = .ok (.aload_n 0, 1) := gz_d tdX2_end_t0_ok 19 rfl
theorem dX2_end_40 : decode cX2_end 40 = .ok (.iconst (-1), 1) := gz_d tdX2_end_t0_ok 20 rfl
theorem dX2_end_41 : decode cX2_end 41 = .ok (.putfield 15, 3) := gz_d tdX2_end_t0_ok 21 rfl
theorem dX2_end_44 : decode cX2_end 44 = .ok (.aload_n 0, 1) := gz_d tdX2_end_t0_ok 22 rfl
theorem dX2_end_45 : decode cX2_end 45 = .ok (.getfield 22, 3) := gz_d tdX2_end_t0_ok 23 rfl
theorem dX2_end_48 : decode cX2_end 48 = .ok (.ifCond .ne 16, 3) := gz_d tdX2_end_t0_ok 24 rfl
theorem dX2_end_51 : decode cX2_end 51 = .ok (.aload_n 0, 1) := gz_d tdX2_end_t0_ok 25 rfl
theorem dX2_end_52 : decode cX2_end 52 = .ok (.dup, 1) := gz_d tdX2_end_t0_ok 26 rfl
theorem dX2_end_53 : decode cX2_end 53 = .ok (.getfield 92, 3) := gz_d tdX2_end_t0_ok 27 rfl
theorem dX2_end_56 : decode cX2_end 56 = .ok (.iconst 1, 1) := gz_d tdX2_end_t0_ok 28 rfl
theorem dX2_end_57 : decode cX2_end 57 = .ok (.iadd, 1) := gz_d tdX2_end_t0_ok 29 rfl
theorem dX2_end_58 : decode cX2_end 58 = .ok (.putfield 92, 3) := gz_d tdX2_end_t0_ok 30 rfl
theorem dX2_end_61 : decode cX2_end 61 = .ok (.goto 13, 3) := gz_d tdX2_end_t0_ok 31 rfl
theorem dX2_end_64 : decode cX2_end 64 = .ok (.aload_n 0, 1) := gz_d tdX2_end_t0_ok 32 rfl
theorem dX2_end_65 : decode cX2_end 65 = .ok (.dup, 1) := gz_d tdX2_end_t0_ok 33 rfl
theorem dX2_end_66 : decode cX2_end 66 = .ok (.getfield 95, 3) := gz_d tdX2_end_t0_ok 34 rfl
theorem dX2_end_69 : decode cX2_end 69 = .ok (.iconst 1, 1) := gz_d tdX2_end_t0_ok 35 rfl
theorem dX2_end_70 : decode cX2_end 70 = .ok (.iadd, 1) := gz_d tdX2_end_t0_ok 36 rfl
theorem dX2_end_71 : decode cX2_end 71 = .ok (.putfield 95, 3) := gz_d tdX2_end_t0_ok 37 rfl
theorem dX2_end_74 : decode cX2_end 74 = .ok (.return_, 1) := gz_d tdX2_end_t0_ok 38 rfl
def tdX2_fact_t0 : List (Nat × Instr × Nat) := [(0, .iload_n 1, 1), (1, .tableswitch 42 0 2 #[27, 32, 37], 27), (28, .aload_n 0, 1), (29, .getfield 15, 3), (32, .ireturn, 1), (33, .aload_n 0, 1), (34, .getfield 19, 3), (37, .ireturn, 1), (38, .aload_n 0, 1), (39, .getfield 52, 3), (42, .ireturn, 1), (43, .aload_n 0, 1), (44, .getfield 22, 3), (47, .ireturn, 1)]
theorem tdX2_fact_t0_ok : gz_dec cX2_fact tdX2_fact_t0 = true := by decide +kernel
theorem dX2_fact_0 : decode cX2_fact 0 = .ok (.iload_n 1, 1) := gz_d tdX2_fact_t0_ok 0 rfl
theorem dX2_fact_1 : decode cX2_fact 1 = .ok (.tableswitch 42 0 2 #[27, 32, 37], 27) := gz_d tdX2_fact_t0_ok 1 rfl
theorem dX2_fact_28 : decode cX2_fact 28 = .ok (.aload_n 0, 1) := gz_d tdX2_fact_t0_ok 2 rfl
theorem dX2_fact_29 : decode cX2_fact 29 = .ok (.getfield 15, 3) := gz_d tdX2_fact_t0_ok 3 rfl
theorem dX2_fact_32 : decode cX2_fact 32 = .ok (.ireturn, 1) := gz_d tdX2_fact_t0_ok 4 rfl
theorem dX2_fact_33 : decode cX2_fact 33 = .ok (.aload_n 0, 1) := gz_d tdX2_fact_t0_ok 5 rfl
theorem dX2_fact_34 : decode cX2_fact 34 = .ok (.getfield 19, 3) := gz_d tdX2_fact_t0_ok 6 rfl
theorem dX2_fact_37 : decode cX2_fact 37 = .ok (.ireturn, 1) := gz_d tdX2_fact_t0_ok 7 rfl
theorem dX2_fact_38 : decode cX2_fact 38 = .ok (.aload_n 0, 1) := gz_d tdX2_fact_t0_ok 8 rfl
theorem dX2_fact_39 : decode cX2_fact 39 = .ok (.getfield 52, 3) := gz_d tdX2_fact_t0_ok 9 rfl
theorem dX2_fact_42 : decode cX2_fact 42 = .ok (.ireturn, 1) := gz_d tdX2_fact_t0_ok 10 rfl
theorem dX2_fact_43 : decode cX2_fact 43 = .ok (.aload_n 0, 1) := gz_d tdX2_fact_t0_ok 11 rfl
theorem dX2_fact_44 : decode cX2_fact 44 = .ok (.getfield 22, 3) := gz_d tdX2_fact_t0_ok 12 rfl
theorem dX2_fact_47 : decode cX2_fact 47 = .ok (.ireturn, 1) := gz_d tdX2_fact_t0_ok 13 rfl
def tdX3_init_t0 : List (Nat × Instr × Nat) := [(0, .aload_n 0, 1), (1, .invokespecial 3, 3), (4, .aload_n 0, 1), (5, .new 9, 3), (8, .dup, 1), (9, .invokespecial 11, 3), (12, .putfield 12, 3), (15, .aload_n 0, 1), (16, .new 9, 3), (19, .dup, 1), (20, .invokespecial 11, 3), (23, .putfield 18, 3), (26, .aload_n 0, 1), (27, .bipush 16, 2), (29, .newarray .double, 2), (31, .putfield 21, 3), (34, .aload_n 0, 1), (35, .aload_n 1, 1), (36, .putfield 25, 3), (39, .return_, 1)]
theorem tdX3_init_t0_ok : gz_dec cX3_init tdX3_init_t0 = true := by decide +kernel
theorem dX3_init_0 : decode cX3_init 0 = .ok (.aload_n 0, 1) := gz_d tdX3_init_t0_ok 0 rfl
theorem dX3_init_1 : decode cX3_init 1 = .ok (.invokespecial 3, 3) := gz_d tdX3_init_t0_ok 1 rfl
theorem dX3_init_4 : decode cX3_init 4 = .ok (.aload_n 0, 1) := gz_d tdX3_init_t0_ok 2 rfl
theorem dX3_init_5 : decode cX3_init 5 = .ok (.new 9, 3) := gz_d tdX3_init_t0_ok 3 rfl
theorem dX3_init_8 : decode cX3_init 8 = .ok (.dup, 1) := gz_d tdX3_init_t0_ok 4 rfl
theorem dX3_init_9 : decode cX3_init 9 = .ok (.invokespecial 11, 3) := gz_d tdX3_init_t0_ok 5 rfl
theorem dX3_init_12 : decode cX3_init 12 = .ok (.putfield 12, 3) := gz_d tdX3_init_t0_ok 6 rfl
theorem dX3_init_15 : decode cX3_init 15 = .ok (.aload_n 0, 1) := gz_d tdX3_init_t0_ok 7 rfl
theorem dX3_init_16 : decode cX3_init 16 = .ok (.new 9, 3) := gz_d tdX3_init_t0_ok 8 rfl
theorem dX3_init_19 : decode cX3_init 19 = .ok (.dup, 1) := gz_d tdX3_init_t0_ok 9 rfl
theorem dX3_init_20 : decode cX3_init 20 = .ok (.invokespecial 11, 3) := gz_d tdX3_init_t0_ok 10 rfl
theorem dX3_init_23 : decode cX3_init 23 = .ok (.putfield 18, 3) := gz_d tdX3_init_t0_ok 11 rfl
theorem dX3_init_26 : decode cX3_init 26 = .ok (.aload_n 0, 1) := gz_d tdX3_init_t0_ok 12 rfl
theorem dX3_init_27 : decode cX3_init 27 = .ok (.bipush 16, 2) := gz_d tdX3_init_t0_ok 13 rfl
theorem dX3_init_29 : decode cX3_init 29 = .ok (.newarray .double, 2) := gz_d tdX3_init_t0_ok 14 rfl
theorem dX3_init_31 : decode cX3_init 31 = .ok (.putfield 21, 3) := gz_d tdX3_init_t0_ok 15 rfl
theorem dX3_init_34 : decode cX3_init 34 = .ok (.aload_n 0, 1) := gz_d tdX3_init_t0_ok 16 rfl
theorem dX3_init_35 : decode cX3_init 35 = .ok (.aload_n 1, 1) := gz_d tdX3_init_t0_ok 17 rfl
theorem dX3_init_36 : decode cX3_init 36 = .ok (.putfield 25, 3) := gz_d tdX3_init_t0_ok 18 rfl
theorem dX3_init_39 : decode cX3_init 39 = .ok (.return_, 1) := gz_d tdX3_init_t0_ok 19 rfl
def tdX3_play_t0 : List (Nat × Instr × Nat) := [(0, .aload_n 0, 1), (1, .getfield 25, 3), (4, .iconst 0, 1), (5, .invokevirtual 29, 3), (8, .astore 4, 2), (10, .aload_n 0, 1), (11, .getfield 25, 3), (14, .iconst 1, 1), (15, .invokevirtual 29, 3), (18, .astore 5, 2), (20, .aload_n 0, 1), (21, .getfield 12, 3), (24, .aload_n 1, 1), (25, .iload_n 2, 1), (26, .aload 4, 2), (28, .aload_n 0, 1), (29, .getfield 25, 3), (32, .getfield 35, 3), (35, .invokevirtual 39, 3), (38, .aload_n 0, 1), (39, .getfield 18, 3), (42, .aload_n 1, 1), (43, .iload_n 3, 1), (44, .aload 5, 2), (46, .aload_n 0, 1), (47, .getfield 25, 3), (50, .getfield 35, 3), (53, .invokevirtual 39, 3), (56, .dconst 0, 1), (57, .dstore 6, 2), (59, .iconst 0, 1), (60, .istore 8, 2), (62, .iload 8, 2), (64, .aload 4, 2), (66, .getfield 43, 3), (69, .if_icmp .ge 62, 3), (72, .iconst 0, 1), (73, .istore 9, 2), (75, .iload 9, 2), (77, .aload 5, 2), (79, .getfield 43, 3), (82, .if_icmp .ge 43, 3), (85, .aload 4, 2), (87, .iload 8, 2), (89, .invokevirtual 48, 3), (92, .aload 5, 2), (94, .iload 9, 2), (96, .invokevirtual 48, 3), (99, .imul, 1), (100, .i2d, 1), (101, .dstore 10, 2), (103, .dload 6, 2), (105, .dload 10, 2), (107, .aload_n 0, 1), (108, .iload 8, 2), (110, .iload 9, 2), (112, .invokevirtual 52, 3), (115, .dmul, 1), (116, .dadd, 1), (117, .dstore 6, 2)]
theorem tdX3_play_t0_ok : gz_dec cX3_play tdX3_play_t0 = true := by decide +kernel
theorem dX3_play_0 : decode cX3_play 0 = .ok (.aload_n 0, 1) := gz_d tdX3_play_t0_ok 0 rfl
theorem dX3_play_1 : decode cX3_play 1 = .ok (.getfield 25, 3) := gz_d tdX3_play_t0_ok 1 rfl
theorem dX3_play_4 : decode cX3_play 4 = .ok (.iconst 0, 1) := gz_d tdX3_play_t0_ok 2 rfl
theorem dX3_play_5 : decode cX3_play 5 = .ok (.invokevirtual 29, 3) := gz_d tdX3_play_t0_ok 3 rfl
theorem dX3_play_8 : decode cX3_play 8 = .ok (.astore 4, 2) := gz_d tdX3_play_t0_ok 4 rfl
theorem dX3_play_10 : decode cX3_play 10 = .ok (.aload_n 0, 1) := gz_d tdX3_play_t0_ok 5 rfl
theorem dX3_play_11 : decode cX3_play 11 = .ok (.getfield 25, 3) := gz_d tdX3_play_t0_ok 6 rfl
theorem dX3_play_14 : decode cX3_play 14 = .ok (.iconst 1, 1) := gz_d tdX3_play_t0_ok 7 rfl
theorem dX3_play_15 : decode cX3_play 15 = .ok (.invokevirtual 29, 3) := gz_d tdX3_play_t0_ok 8 rfl
theorem dX3_play_18 : decode cX3_play 18 = .ok (.astore 5, 2) := gz_d tdX3_play_t0_ok 9 rfl
theorem dX3_play_20 : decode cX3_play 20 = .ok (.aload_n 0, 1) := gz_d tdX3_play_t0_ok 10 rfl
theorem dX3_play_21 : decode cX3_play 21 = .ok (.getfield 12, 3) := gz_d tdX3_play_t0_ok 11 rfl
theorem dX3_play_24 : decode cX3_play 24 = .ok (.aload_n 1, 1) := gz_d tdX3_play_t0_ok 12 rfl
theorem dX3_play_25 : decode cX3_play 25 = .ok (.iload_n 2, 1) := gz_d tdX3_play_t0_ok 13 rfl
theorem dX3_play_26 : decode cX3_play 26 = .ok (.aload 4, 2) := gz_d tdX3_play_t0_ok 14 rfl
theorem dX3_play_28 : decode cX3_play 28 = .ok (.aload_n 0, 1) := gz_d tdX3_play_t0_ok 15 rfl
theorem dX3_play_29 : decode cX3_play 29 = .ok (.getfield 25, 3) := gz_d tdX3_play_t0_ok 16 rfl
theorem dX3_play_32 : decode cX3_play 32 = .ok (.getfield 35, 3) := gz_d tdX3_play_t0_ok 17 rfl
theorem dX3_play_35 : decode cX3_play 35 = .ok (.invokevirtual 39, 3) := gz_d tdX3_play_t0_ok 18 rfl
theorem dX3_play_38 : decode cX3_play 38 = .ok (.aload_n 0, 1) := gz_d tdX3_play_t0_ok 19 rfl
theorem dX3_play_39 : decode cX3_play 39 = .ok (.getfield 18, 3) := gz_d tdX3_play_t0_ok 20 rfl
theorem dX3_play_42 : decode cX3_play 42 = .ok (.aload_n 1, 1) := gz_d tdX3_play_t0_ok 21 rfl
theorem dX3_play_43 : decode cX3_play 43 = .ok (.iload_n 3, 1) := gz_d tdX3_play_t0_ok 22 rfl
theorem dX3_play_44 : decode cX3_play 44 = .ok (.aload 5, 2) := gz_d tdX3_play_t0_ok 23 rfl
theorem dX3_play_46 : decode cX3_play 46 = .ok (.aload_n 0, 1) := gz_d tdX3_play_t0_ok 24 rfl
theorem dX3_play_47 : decode cX3_play 47 = .ok (.getfield 25, 3) := gz_d tdX3_play_t0_ok 25 rfl
theorem dX3_play_50 : decode cX3_play 50 = .ok (.getfield 35, 3) := gz_d tdX3_play_t0_ok 26 rfl
theorem dX3_play_53 : decode cX3_play 53 = .ok (.invokevirtual 39, 3) := gz_d tdX3_play_t0_ok 27 rfl
theorem dX3_play_56 : decode cX3_play 56 = .ok (.dconst 0, 1) := gz_d tdX3_play_t0_ok 28 rfl
theorem dX3_play_57 : decode cX3_play 57 = .ok (.dstore 6, 2) := gz_d tdX3_play_t0_ok 29 rfl
theorem dX3_play_59 : decode cX3_play 59 = .ok (.iconst 0, 1) := gz_d tdX3_play_t0_ok 30 rfl
theorem dX3_play_60 : decode cX3_play 60 = .ok (.istore 8, 2) := gz_d tdX3_play_t0_ok 31 rfl
theorem dX3_play_62 : decode cX3_play 62 = .ok (.iload 8, 2) := gz_d tdX3_play_t0_ok 32 rfl
theorem dX3_play_64 : decode cX3_play 64 = .ok (.aload 4, 2) := gz_d tdX3_play_t0_ok 33 rfl
theorem dX3_play_66 : decode cX3_play 66 = .ok (.getfield 43, 3) := gz_d tdX3_play_t0_ok 34 rfl
theorem dX3_play_69 : decode cX3_play 69 = .ok (.if_icmp .ge 62, 3) := gz_d tdX3_play_t0_ok 35 rfl
theorem dX3_play_72 : decode cX3_play 72 = .ok (.iconst 0, 1) := gz_d tdX3_play_t0_ok 36 rfl
theorem dX3_play_73 : decode cX3_play 73 = .ok (.istore 9, 2) := gz_d tdX3_play_t0_ok 37 rfl
theorem dX3_play_75 : decode cX3_play 75 = .ok (.iload 9, 2) := gz_d tdX3_play_t0_ok 38 rfl
theorem dX3_play_77 : decode cX3_play 77 = .ok (.aload 5, 2) := gz_d tdX3_play_t0_ok 39 rfl
theorem dX3_play_79 : decode cX3_play 79 = .ok (.getfield 43, 3) := gz_d tdX3_play_t0_ok 40 rfl
theorem dX3_play_82 : decode cX3_play 82 = .ok (.if_icmp .ge 43, 3) := gz_d tdX3_play_t0_ok 41 rfl
theorem dX3_play_85 : decode cX3_play 85 = .ok (.aload 4, 2) := gz_d tdX3_play_t0_ok 42 rfl
theorem dX3_play_87 : decode cX3_play 87 = .ok (.iload 8, 2) := gz_d tdX3_play_t0_ok 43 rfl
theorem dX3_play_89 : decode cX3_play 89 = .ok (.invokevirtual 48, 3) := gz_d tdX3_play_t0_ok 44 rfl
theorem dX3_play_92 : decode cX3_play 92 = .ok (.aload 5, 2) := gz_d tdX3_play_t0_ok 45 rfl
theorem dX3_play_94 : decode cX3_play 94 = .ok (.iload 9, 2) := gz_d tdX3_play_t0_ok 46 rfl
theorem dX3_play_96 : decode cX3_play 96 = .ok (.invokevirtual 48, 3) := gz_d tdX3_play_t0_ok 47 rfl
theorem dX3_play_99 : decode cX3_play 99 = .ok (.imul, 1) := gz_d tdX3_play_t0_ok 48 rfl
theorem dX3_play_100 : decode cX3_play 100 = .ok (.i2d, 1) := gz_d tdX3_play_t0_ok 49 rfl
theorem dX3_play_101 : decode cX3_play 101 = .ok (.dstore 10, 2) := gz_d tdX3_play_t0_ok 50 rfl
theorem dX3_play_103 : decode cX3_play 103 = .ok (.dload 6, 2) := gz_d tdX3_play_t0_ok 51 rfl
theorem dX3_play_105 : decode cX3_play 105 = .ok (.dload 10, 2) := gz_d tdX3_play_t0_ok 52 rfl
theorem dX3_play_107 : decode cX3_play 107 = .ok (.aload_n 0, 1) := gz_d tdX3_play_t0_ok 53 rfl
theorem dX3_play_108 : decode cX3_play 108 = .ok (.iload 8, 2) := gz_d tdX3_play_t0_ok 54 rfl
theorem dX3_play_110 : decode cX3_play 110 = .ok (.iload 9, 2) := gz_d tdX3_play_t0_ok 55 rfl
theorem dX3_play_112 : decode cX3_play 112 = .ok (.invokevirtual 52, 3) := gz_d tdX3_play_t0_ok 56 rfl
theorem dX3_play_115 : decode cX3_play 115 = .ok (.dmul, 1) := gz_d tdX3_play_t0_ok 57 rfl
theorem dX3_play_116 : decode cX3_play 116 = .ok (.dadd, 1) := gz_d tdX3_play_t0_ok 58 rfl
theorem dX3_play_117 : decode cX3_play 117 = .ok (.dstore 6, 2) := gz_d tdX3_play_t0_ok 59 rfl
def tdX3_play_t1 : List (Nat × Instr × Nat) := [(119, .iinc 9 1, 3), (122, .goto (-47), 3), (125, .iinc 8 1, 3), (128, .goto (-66), 3), (131, .aload_n 0, 1), (132, .getfield 25, 3), (135, .dload 6, 2), (137, .invokevirtual 56, 3), (140, .dreturn, 1)]
theorem tdX3_play_t1_ok : gz_dec cX3_play tdX3_play_t1 = true := by decide +kernel
theorem dX3_play_119 : decode cX3_play 119 = .ok (.iinc 9 1, 3) := gz_d tdX3_play_t1_ok 0 rfl
theorem dX3_play_122 : decode cX3_play 122 = .ok (.goto (-47), 3) := gz_d tdX3_play_t1_ok 1 rfl
theorem dX3_play_125 : decode cX3_play 125 = .ok (.iinc 8 1, 3) := gz_d tdX3_play_t1_ok 2 rfl
theorem dX3_play_128 : decode cX3_play 128 = .ok (.goto (-66), 3) := gz_d tdX3_play_t1_ok 3 rfl
theorem dX3_play_131 : decode cX3_play 131 = .ok (.aload_n 0, 1) := gz_d tdX3_play_t1_ok 4 rfl
theorem dX3_play_132 : decode cX3_play 132 = .ok (.getfield 25, 3) := gz_d tdX3_play_t1_ok 5 rfl
theorem dX3_play_135 : decode cX3_play 135 = .ok (.dload 6, 2) := gz_d tdX3_play_t1_ok 6 rfl
theorem dX3_play_137 : decode cX3_play 137 = .ok (.invokevirtual 56, 3) := gz_d tdX3_play_t1_ok 7 rfl
theorem dX3_play_140 : decode cX3_play 140 = .ok (.dreturn, 1) := gz_d tdX3_play_t1_ok 8 rfl
def tdX3_expected_t0 : List (Nat × Instr × Nat) := [(0, .aload_n 0, 1), (1, .getfield 25, 3), (4, .getfield 35, 3), (7, .iconst 1, 1), (8, .isub, 1), (9, .istore_n 3, 1), (10, .iload_n 3, 1), (11, .ifCond .lt 46, 3), (14, .iconst 0, 1), (15, .istore 4, 2), (17, .iload 4, 2), (19, .iconst 2, 1), (20, .if_icmp .ge 31, 3), (23, .aload_n 0, 1), (24, .getfield 21, 3), (27, .iload_n 3, 1), (28, .iconst 2, 1), (29, .imul, 1), (30, .iload 4, 2), (32, .iadd, 1), (33, .aload_n 0, 1), (34, .iload_n 1, 1), (35, .iload_n 2, 1), (36, .iload_n 3, 1), (37, .iload 4, 2), (39, .invokevirtual 60, 3), (42, .invokestatic 64, 3), (45, .iinc 4 1, 3), (48, .goto (-31), 3), (51, .iinc 3 (-1), 3), (54, .goto (-44), 3), (57, .aload_n 0, 1), (58, .iload_n 1, 1), (59, .iload_n 2, 1), (60, .iconst (-1), 1), (61, .iconst 0, 1), (62, .invokevirtual 60, 3), (65, .dreturn, 1)]
theorem tdX3_expected_t0_ok : gz_dec cX3_expected tdX3_expected_t0 = true := by decide +kernel
theorem dX3_expected_0 : decode cX3_expected 0 = .ok (.aload_n 0, 1) := gz_d tdX3_expected_t0_ok 0 rfl
theorem dX3_expected_1 : decode cX3_expected 1 = .ok (.getfield 25, 3) := gz_d tdX3_expected_t0_ok 1 rfl
theorem dX3_expected_4 : decode cX3_expected 4 = .ok (.getfield 35, 3) := gz_d tdX3_expected_t0_ok 2 rfl
theorem dX3_expected_7 : decode cX3_expected 7 = .ok (.iconst 1, 1) := gz_d tdX3_expected_t0_ok 3 rfl
theorem dX3_expected_8 : decode cX3_expected 8 = .ok (.isub, 1) := gz_d tdX3_expected_t0_ok 4 rfl
theorem dX3_expected_9 : decode cX3_expected 9 = .ok (.istore_n 3, 1) := gz_d tdX3_expected_t0_ok 5 rfl
theorem dX3_expected_10 : decode cX3_expected 10 = .ok (.iload_n 3, 1) := gz_d tdX3_expected_t0_ok 6 rfl
theorem dX3_expected_11 : decode cX3_expected 11 = .ok (.ifCond .lt 46, 3) := gz_d tdX3_expected_t0_ok 7 rfl
theorem dX3_expected_14 : decode cX3_expected 14 = .ok (.iconst 0, 1) := gz_d tdX3_expected_t0_ok 8 rfl
theorem dX3_expected_15 : decode cX3_expected 15 = .ok (.istore 4, 2) := gz_d tdX3_expected_t0_ok 9 rfl
theorem dX3_expected_17 : decode cX3_expected 17 = .ok (.iload 4, 2) := gz_d tdX3_expected_t0_ok 10 rfl
theorem dX3_expected_19 : decode cX3_expected 19 = .ok (.iconst 2, 1) := gz_d tdX3_expected_t0_ok 11 rfl
theorem dX3_expected_20 : decode cX3_expected 20 = .ok (.if_icmp .ge 31, 3) := gz_d tdX3_expected_t0_ok 12 rfl
theorem dX3_expected_23 : decode cX3_expected 23 = .ok (.aload_n 0, 1) := gz_d tdX3_expected_t0_ok 13 rfl
theorem dX3_expected_24 : decode cX3_expected 24 = .ok (.getfield 21, 3) := gz_d tdX3_expected_t0_ok 14 rfl
theorem dX3_expected_27 : decode cX3_expected 27 = .ok (.iload_n 3, 1) := gz_d tdX3_expected_t0_ok 15 rfl
theorem dX3_expected_28 : decode cX3_expected 28 = .ok (.iconst 2, 1) := gz_d tdX3_expected_t0_ok 16 rfl
theorem dX3_expected_29 : decode cX3_expected 29 = .ok (.imul, 1) := gz_d tdX3_expected_t0_ok 17 rfl
theorem dX3_expected_30 : decode cX3_expected 30 = .ok (.iload 4, 2) := gz_d tdX3_expected_t0_ok 18 rfl
theorem dX3_expected_32 : decode cX3_expected 32 = .ok (.iadd, 1) := gz_d tdX3_expected_t0_ok 19 rfl
theorem dX3_expected_33 : decode cX3_expected 33 = .ok (.aload_n 0, 1) := gz_d tdX3_expected_t0_ok 20 rfl
theorem dX3_expected_34 : decode cX3_expected 34 = .ok (.iload_n 1, 1) := gz_d tdX3_expected_t0_ok 21 rfl
theorem dX3_expected_35 : decode cX3_expected 35 = .ok (.iload_n 2, 1) := gz_d tdX3_expected_t0_ok 22 rfl
theorem dX3_expected_36 : decode cX3_expected 36 = .ok (.iload_n 3, 1) := gz_d tdX3_expected_t0_ok 23 rfl
theorem dX3_expected_37 : decode cX3_expected 37 = .ok (.iload 4, 2) := gz_d tdX3_expected_t0_ok 24 rfl
theorem dX3_expected_39 : decode cX3_expected 39 = .ok (.invokevirtual 60, 3) := gz_d tdX3_expected_t0_ok 25 rfl
theorem dX3_expected_42 : decode cX3_expected 42 = .ok (.invokestatic 64, 3) := gz_d tdX3_expected_t0_ok 26 rfl
theorem dX3_expected_45 : decode cX3_expected 45 = .ok (.iinc 4 1, 3) := gz_d tdX3_expected_t0_ok 27 rfl
theorem dX3_expected_48 : decode cX3_expected 48 = .ok (.goto (-31), 3) := gz_d tdX3_expected_t0_ok 28 rfl
theorem dX3_expected_51 : decode cX3_expected 51 = .ok (.iinc 3 (-1), 3) := gz_d tdX3_expected_t0_ok 29 rfl
theorem dX3_expected_54 : decode cX3_expected 54 = .ok (.goto (-44), 3) := gz_d tdX3_expected_t0_ok 30 rfl
theorem dX3_expected_57 : decode cX3_expected 57 = .ok (.aload_n 0, 1) := gz_d tdX3_expected_t0_ok 31 rfl
theorem dX3_expected_58 : decode cX3_expected 58 = .ok (.iload_n 1, 1) := gz_d tdX3_expected_t0_ok 32 rfl
theorem dX3_expected_59 : decode cX3_expected 59 = .ok (.iload_n 2, 1) := gz_d tdX3_expected_t0_ok 33 rfl
theorem dX3_expected_60 : decode cX3_expected 60 = .ok (.iconst (-1), 1) := gz_d tdX3_expected_t0_ok 34 rfl
theorem dX3_expected_61 : decode cX3_expected 61 = .ok (.iconst 0, 1) := gz_d tdX3_expected_t0_ok 35 rfl
theorem dX3_expected_62 : decode cX3_expected 62 = .ok (.invokevirtual 60, 3) := gz_d tdX3_expected_t0_ok 36 rfl
theorem dX3_expected_65 : decode cX3_expected 65 = .ok (.dreturn, 1) := gz_d tdX3_expected_t0_ok 37 rfl
def tdX3_expectedAt_t0 : List (Nat × Instr × Nat) := [(0, .iload 4, 2), (2, .ifCond .ne 10, 3), (5, .aload_n 0, 1), (6, .getfield 12, 3), (9, .goto 7, 3), (12, .aload_n 0, 1), (13, .getfield 18, 3), (16, .astore 5, 2), (18, .iload 4, 2), (20, .ifCond .ne 7, 3), (23, .iload_n 1, 1), (24, .goto 4, 3), (27, .iload_n 2, 1), (28, .istore 6, 2), (30, .dconst 0, 1), (31, .dstore 7, 2), (33, .aload 5, 2), (35, .iload 6, 2), (37, .iload_n 3, 1), (38, .iconst (-1), 1), (39, .invokevirtual 68, 3), (42, .dstore 9, 2), (44, .dload 9, 2), (46, .dconst 0, 1), (47, .dcmp .l, 1), (48, .ifCond .le 52, 3), (51, .iload 4, 2), (53, .iconst 1, 1), (54, .if_icmp .ne 7, 3), (57, .iconst 1, 1), (58, .goto 4, 3), (61, .iconst 0, 1), (62, .aload_n 0, 1), (63, .getfield 25, 3), (66, .iload_n 1, 1), (67, .iload_n 2, 1), (68, .iload_n 3, 1), (69, .invokevirtual 72, 3), (72, .if_icmp .ne 7, 3), (75, .iconst 1, 1), (76, .goto 4, 3), (79, .iconst 0, 1), (80, .istore 11, 2), (82, .dload 7, 2), (84, .dload 9, 2), (86, .iload 11, 2), (88, .ifCond .eq 7, 3), (91, .dconst 1, 1), (92, .goto 4, 3), (95, .dconst 0, 1), (96, .dmul, 1), (97, .dadd, 1), (98, .dstore 7, 2), (100, .iload_n 3, 1), (101, .iconst 1, 1), (102, .iadd, 1), (103, .istore 11, 2), (105, .iload 11, 2), (107, .aload_n 0, 1), (108, .getfield 25, 3)]
theorem tdX3_expectedAt_t0_ok : gz_dec cX3_expectedAt tdX3_expectedAt_t0 = true := by decide +kernel
theorem dX3_expectedAt_0 : decode cX3_expectedAt 0 = .ok (.iload 4, 2) := gz_d tdX3_expectedAt_t0_ok 0 rfl
theorem dX3_expectedAt_2 : decode cX3_expectedAt 2 = .ok (.ifCond .ne 10, 3) := gz_d tdX3_expectedAt_t0_ok 1 rfl
theorem dX3_expectedAt_5 : decode cX3_expectedAt 5 = .ok (.aload_n 0, 1) := gz_d tdX3_expectedAt_t0_ok 2 rfl
theorem dX3_expectedAt_6 : decode cX3_expectedAt 6 = .ok (.getfield 12, 3) := gz_d tdX3_expectedAt_t0_ok 3 rfl
theorem dX3_expectedAt_9 : decode cX3_expectedAt 9 = .ok (.goto 7, 3) := gz_d tdX3_expectedAt_t0_ok 4 rfl
theorem dX3_expectedAt_12 : decode cX3_expectedAt 12 = .ok (.aload_n 0, 1) := gz_d tdX3_expectedAt_t0_ok 5 rfl
theorem dX3_expectedAt_13 : decode cX3_expectedAt 13 = .ok (.getfield 18, 3) := gz_d tdX3_expectedAt_t0_ok 6 rfl
theorem dX3_expectedAt_16 : decode cX3_expectedAt 16 = .ok (.astore 5, 2) := gz_d tdX3_expectedAt_t0_ok 7 rfl
theorem dX3_expectedAt_18 : decode cX3_expectedAt 18 = .ok (.iload 4, 2) := gz_d tdX3_expectedAt_t0_ok 8 rfl
theorem dX3_expectedAt_20 : decode cX3_expectedAt 20 = .ok (.ifCond .ne 7, 3) := gz_d tdX3_expectedAt_t0_ok 9 rfl
theorem dX3_expectedAt_23 : decode cX3_expectedAt 23 = .ok (.iload_n 1, 1) := gz_d tdX3_expectedAt_t0_ok 10 rfl
theorem dX3_expectedAt_24 : decode cX3_expectedAt 24 = .ok (.goto 4, 3) := gz_d tdX3_expectedAt_t0_ok 11 rfl
theorem dX3_expectedAt_27 : decode cX3_expectedAt 27 = .ok (.iload_n 2, 1) := gz_d tdX3_expectedAt_t0_ok 12 rfl
theorem dX3_expectedAt_28 : decode cX3_expectedAt 28 = .ok (.istore 6, 2) := gz_d tdX3_expectedAt_t0_ok 13 rfl
theorem dX3_expectedAt_30 : decode cX3_expectedAt 30 = .ok (.dconst 0, 1) := gz_d tdX3_expectedAt_t0_ok 14 rfl
theorem dX3_expectedAt_31 : decode cX3_expectedAt 31 = .ok (.dstore 7, 2) := gz_d tdX3_expectedAt_t0_ok 15 rfl
theorem dX3_expectedAt_33 : decode cX3_expectedAt 33 = .ok (.aload 5, 2) := gz_d tdX3_expectedAt_t0_ok 16 rfl
theorem dX3_expectedAt_35 : decode cX3_expectedAt 35 = .ok (.iload 6, 2) := gz_d tdX3_expectedAt_t0_ok 17 rfl
theorem dX3_expectedAt_37 : decode cX3_expectedAt 37 = .ok (.iload_n 3, 1) := gz_d tdX3_expectedAt_t0_ok 18 rfl
theorem dX3_expectedAt_38 : decode cX3_expectedAt 38 = .ok (.iconst (-1), 1) := gz_d tdX3_expectedAt_t0_ok 19 rfl
theorem dX3_expectedAt_39 : decode cX3_expectedAt 39 = .ok (.invokevirtual 68, 3) := gz_d tdX3_expectedAt_t0_ok 20 rfl
theorem dX3_expectedAt_42 : decode cX3_expectedAt 42 = .ok (.dstore 9, 2) := gz_d tdX3_expectedAt_t0_ok 21 rfl
theorem dX3_expectedAt_44 : decode cX3_expectedAt 44 = .ok (.dload 9, 2) := gz_d tdX3_expectedAt_t0_ok 22 rfl
theorem dX3_expectedAt_46 : decode cX3_expectedAt 46 = .ok (.dconst 0, 1) := gz_d tdX3_expectedAt_t0_ok 23 rfl
theorem dX3_expectedAt_47 : decode cX3_expectedAt 47 = .ok (.dcmp .l, 1) := gz_d tdX3_expectedAt_t0_ok 24 rfl
theorem dX3_expectedAt_48 : decode cX3_expectedAt 48 = .ok (.ifCond .le 52, 3) := gz_d tdX3_expectedAt_t0_ok 25 rfl
theorem dX3_expectedAt_51 : decode cX3_expectedAt 51 = .ok (.iload 4, 2) := gz_d tdX3_expectedAt_t0_ok 26 rfl
theorem dX3_expectedAt_53 : decode cX3_expectedAt 53 = .ok (.iconst 1, 1) := gz_d tdX3_expectedAt_t0_ok 27 rfl
theorem dX3_expectedAt_54 : decode cX3_expectedAt 54 = .ok (.if_icmp .ne 7, 3) := gz_d tdX3_expectedAt_t0_ok 28 rfl
theorem dX3_expectedAt_57 : decode cX3_expectedAt 57 = .ok (.iconst 1, 1) := gz_d tdX3_expectedAt_t0_ok 29 rfl
theorem dX3_expectedAt_58 : decode cX3_expectedAt 58 = .ok (.goto 4, 3) := gz_d tdX3_expectedAt_t0_ok 30 rfl
theorem dX3_expectedAt_61 : decode cX3_expectedAt 61 = .ok (.iconst 0, 1) := gz_d tdX3_expectedAt_t0_ok 31 rfl
theorem dX3_expectedAt_62 : decode cX3_expectedAt 62 = .ok (.aload_n 0, 1) := gz_d tdX3_expectedAt_t0_ok 32 rfl
theorem dX3_expectedAt_63 : decode cX3_expectedAt 63 = .ok (.getfield 25, 3) := gz_d tdX3_expectedAt_t0_ok 33 rfl
theorem dX3_expectedAt_66 : decode cX3_expectedAt 66 = .ok (.iload_n 1, 1) := gz_d tdX3_expectedAt_t0_ok 34 rfl
theorem dX3_expectedAt_67 : decode cX3_expectedAt 67 = .ok (.iload_n 2, 1) := gz_d tdX3_expectedAt_t0_ok 35 rfl
theorem dX3_expectedAt_68 : decode cX3_expectedAt 68 = .ok (.iload_n 3, 1) := gz_d tdX3_expectedAt_t0_ok 36 rfl
theorem dX3_expectedAt_69 : decode cX3_expectedAt 69 = .ok (.invokevirtual 72, 3) := gz_d tdX3_expectedAt_t0_ok 37 rfl
theorem dX3_expectedAt_72 : decode cX3_expectedAt 72 = .ok (.if_icmp .ne 7, 3) := gz_d tdX3_expectedAt_t0_ok 38 rfl
theorem dX3_expectedAt_75 : decode cX3_expectedAt 75 = .ok (.iconst 1, 1) := gz_d tdX3_expectedAt_t0_ok 39 rfl
theorem dX3_expectedAt_76 : decode cX3_expectedAt 76 = .ok (.goto 4, 3) := gz_d tdX3_expectedAt_t0_ok 40 rfl
theorem dX3_expectedAt_79 : decode cX3_expectedAt 79 = .ok (.iconst 0, 1) := gz_d tdX3_expectedAt_t0_ok 41 rfl
theorem dX3_expectedAt_80 : decode cX3_expectedAt 80 = .ok (.istore 11, 2) := gz_d tdX3_expectedAt_t0_ok 42 rfl
theorem dX3_expectedAt_82 : decode cX3_expectedAt 82 = .ok (.dload 7, 2) := gz_d tdX3_expectedAt_t0_ok 43 rfl
theorem dX3_expectedAt_84 : decode cX3_expectedAt 84 = .ok (.dload 9, 2) := gz_d tdX3_expectedAt_t0_ok 44 rfl
theorem dX3_expectedAt_86 : decode cX3_expectedAt 86 = .ok (.iload 11, 2) := gz_d tdX3_expectedAt_t0_ok 45 rfl
theorem dX3_expectedAt_88 : decode cX3_expectedAt 88 = .ok (.ifCond .eq 7, 3) := gz_d tdX3_expectedAt_t0_ok 46 rfl
theorem dX3_expectedAt_91 : decode cX3_expectedAt 91 = .ok (.dconst 1, 1) := gz_d tdX3_expectedAt_t0_ok 47 rfl
theorem dX3_expectedAt_92 : decode cX3_expectedAt 92 = .ok (.goto 4, 3) := gz_d tdX3_expectedAt_t0_ok 48 rfl
theorem dX3_expectedAt_95 : decode cX3_expectedAt 95 = .ok (.dconst 0, 1) := gz_d tdX3_expectedAt_t0_ok 49 rfl
theorem dX3_expectedAt_96 : decode cX3_expectedAt 96 = .ok (.dmul, 1) := gz_d tdX3_expectedAt_t0_ok 50 rfl
theorem dX3_expectedAt_97 : decode cX3_expectedAt 97 = .ok (.dadd, 1) := gz_d tdX3_expectedAt_t0_ok 51 rfl
theorem dX3_expectedAt_98 : decode cX3_expectedAt 98 = .ok (.dstore 7, 2) := gz_d tdX3_expectedAt_t0_ok 52 rfl
theorem dX3_expectedAt_100 : decode cX3_expectedAt 100 = .ok (.iload_n 3, 1) := gz_d tdX3_expectedAt_t0_ok 53 rfl
theorem dX3_expectedAt_101 : decode cX3_expectedAt 101 = .ok (.iconst 1, 1) := gz_d tdX3_expectedAt_t0_ok 54 rfl
theorem dX3_expectedAt_102 : decode cX3_expectedAt 102 = .ok (.iadd, 1) := gz_d tdX3_expectedAt_t0_ok 55 rfl
theorem dX3_expectedAt_103 : decode cX3_expectedAt 103 = .ok (.istore 11, 2) := gz_d tdX3_expectedAt_t0_ok 56 rfl
theorem dX3_expectedAt_105 : decode cX3_expectedAt 105 = .ok (.iload 11, 2) := gz_d tdX3_expectedAt_t0_ok 57 rfl
theorem dX3_expectedAt_107 : decode cX3_expectedAt 107 = .ok (.aload_n 0, 1) := gz_d tdX3_expectedAt_t0_ok 58 rfl
theorem dX3_expectedAt_108 : decode cX3_expectedAt 108 = .ok (.getfield 25, 3) := gz_d tdX3_expectedAt_t0_ok 59 rfl
def tdX3_expectedAt_t1 : List (Nat × Instr × Nat) := [(111, .getfield 35, 3), (114, .if_icmp .ge 52, 3), (117, .aload 5, 2), (119, .iload 6, 2), (121, .iload_n 3, 1), (122, .iload 11, 2), (124, .invokevirtual 68, 3), (127, .dstore 12, 2), (129, .dload 12, 2), (131, .dconst 0, 1), (132, .dcmp .l, 1), (133, .ifCond .le 27, 3), (136, .dload 7, 2), (138, .dload 12, 2), (140, .aload_n 0, 1), (141, .getfield 21, 3), (144, .iload 11, 2), (146, .iconst 2, 1), (147, .imul, 1), (148, .iconst 1, 1), (149, .iadd, 1), (150, .iload 4, 2), (152, .isub, 1), (153, .invokestatic 76, 3), (156, .dmul, 1), (157, .dadd, 1), (158, .dstore 7, 2), (160, .iinc 11 1, 3), (163, .goto (-58), 3), (166, .dload 7, 2), (168, .dreturn, 1)]
theorem tdX3_expectedAt_t1_ok : gz_dec cX3_expectedAt tdX3_expectedAt_t1 = true := by decide +kernel
theorem dX3_expectedAt_111 : decode cX3_expectedAt 111 = .ok (.getfield 35, 3) := gz_d tdX3_expectedAt_t1_ok 0 rfl
theorem dX3_expectedAt_114 : decode cX3_expectedAt 114 = .ok (.if_icmp .ge 52, 3) := gz_d tdX3_expectedAt_t1_ok 1 rfl
theorem dX3_expectedAt_117 : decode cX3_expectedAt 117 = .ok (.aload 5, 2) := gz_d tdX3_expectedAt_t1_ok 2 rfl
theorem dX3_expectedAt_119 : decode cX3_expectedAt 119 = .ok (.iload 6, 2) := gz_d tdX3_expectedAt_t1_ok 3 rfl
theorem dX3_expectedAt_121 : decode cX3_expectedAt 121 = .ok (.iload_n 3, 1) := gz_d tdX3_expectedAt_t1_ok 4 rfl
theorem dX3_expectedAt_122 : decode cX3_expectedAt 122 = .ok (.iload 11, 2) := gz_d tdX3_expectedAt_t1_ok 5 rfl
theorem dX3_expectedAt_124 : decode cX3_expectedAt 124 = .ok (.invokevirtual 68, 3) := gz_d tdX3_expectedAt_t1_ok 6 rfl
theorem dX3_expectedAt_127 : decode cX3_expectedAt 127 = .ok (.dstore 12, 2) := gz_d tdX3_expectedAt_t1_ok 7 rfl
theorem dX3_expectedAt_129 : decode cX3_expectedAt 129 = .ok (.dload 12, 2) := gz_d tdX3_expectedAt_t1_ok 8 rfl
theorem dX3_expectedAt_131 : decode cX3_expectedAt 131 = .ok (.dconst 0, 1) := gz_d tdX3_expectedAt_t1_ok 9 rfl
theorem dX3_expectedAt_132 : decode cX3_expectedAt 132 = .ok (.dcmp .l, 1) := gz_d tdX3_expectedAt_t1_ok 10 rfl
theorem dX3_expectedAt_133 : decode cX3_expectedAt 133 = .ok (.ifCond .le 27, 3) := gz_d tdX3_expectedAt_t1_ok 11 rfl
theorem dX3_expectedAt_136 : decode cX3_expectedAt 136 = .ok (.dload 7, 2) := gz_d tdX3_expectedAt_t1_ok 12 rfl
theorem dX3_expectedAt_138 : decode cX3_expectedAt 138 = .ok (.dload 12, 2) := gz_d tdX3_expectedAt_t1_ok 13 rfl
theorem dX3_expectedAt_140 : decode cX3_expectedAt 140 = .ok (.aload_n 0, 1) := gz_d tdX3_expectedAt_t1_ok 14 rfl
theorem dX3_expectedAt_141 : decode cX3_expectedAt 141 = .ok (.getfield 21, 3) := gz_d tdX3_expectedAt_t1_ok 15 rfl
theorem dX3_expectedAt_144 : decode cX3_expectedAt 144 = .ok (.iload 11, 2) := gz_d tdX3_expectedAt_t1_ok 16 rfl
theorem dX3_expectedAt_146 : decode cX3_expectedAt 146 = .ok (.iconst 2, 1) := gz_d tdX3_expectedAt_t1_ok 17 rfl
theorem dX3_expectedAt_147 : decode cX3_expectedAt 147 = .ok (.imul, 1) := gz_d tdX3_expectedAt_t1_ok 18 rfl
theorem dX3_expectedAt_148 : decode cX3_expectedAt 148 = .ok (.iconst 1, 1) := gz_d tdX3_expectedAt_t1_ok 19 rfl
theorem dX3_expectedAt_149 : decode cX3_expectedAt 149 = .ok (.iadd, 1) := gz_d tdX3_expectedAt_t1_ok 20 rfl
theorem dX3_expectedAt_150 : decode cX3_expectedAt 150 = .ok (.iload 4, 2) := gz_d tdX3_expectedAt_t1_ok 21 rfl
theorem dX3_expectedAt_152 : decode cX3_expectedAt 152 = .ok (.isub, 1) := gz_d tdX3_expectedAt_t1_ok 22 rfl
theorem dX3_expectedAt_153 : decode cX3_expectedAt 153 = .ok (.invokestatic 76, 3) := gz_d tdX3_expectedAt_t1_ok 23 rfl
theorem dX3_expectedAt_156 : decode cX3_expectedAt 156 = .ok (.dmul, 1) := gz_d tdX3_expectedAt_t1_ok 24 rfl
theorem dX3_expectedAt_157 : decode cX3_expectedAt 157 = .ok (.dadd, 1) := gz_d tdX3_expectedAt_t1_ok 25 rfl
theorem dX3_expectedAt_158 : decode cX3_expectedAt 158 = .ok (.dstore 7, 2) := gz_d tdX3_expectedAt_t1_ok 26 rfl
theorem dX3_expectedAt_160 : decode cX3_expectedAt 160 = .ok (.iinc 11 1, 3) := gz_d tdX3_expectedAt_t1_ok 27 rfl
theorem dX3_expectedAt_163 : decode cX3_expectedAt 163 = .ok (.goto (-58), 3) := gz_d tdX3_expectedAt_t1_ok 28 rfl
theorem dX3_expectedAt_166 : decode cX3_expectedAt 166 = .ok (.dload 7, 2) := gz_d tdX3_expectedAt_t1_ok 29 rfl
theorem dX3_expectedAt_168 : decode cX3_expectedAt 168 = .ok (.dreturn, 1) := gz_d tdX3_expectedAt_t1_ok 30 rfl
def tdX4_init_t0 : List (Nat × Instr × Nat) := [(0, .aload_n 0, 1), (1, .invokespecial 3, 3), (4, .aload_n 0, 1), (5, .sipush 3888, 3), (8, .newarray .int, 2), (10, .putfield 9, 3), (13, .aload_n 0, 1), (14, .getfield 9, 3), (17, .iconst 1, 1), (18, .invokestatic 15, 3), (21, .return_, 1)]
theorem tdX4_init_t0_ok : gz_dec cX4_init tdX4_init_t0 = true := by decide +kernel
theorem dX4_init_0 : decode cX4_init 0 = .ok (.aload_n 0, 1) := gz_d tdX4_init_t0_ok 0 rfl
theorem dX4_init_1 : decode cX4_init 1 = .ok (.invokespecial 3, 3) := gz_d tdX4_init_t0_ok 1 rfl
theorem dX4_init_4 : decode cX4_init 4 = .ok (.aload_n 0, 1) := gz_d tdX4_init_t0_ok 2 rfl
theorem dX4_init_5 : decode cX4_init 5 = .ok (.sipush 3888, 3) := gz_d tdX4_init_t0_ok 3 rfl
theorem dX4_init_8 : decode cX4_init 8 = .ok (.newarray .int, 2) := gz_d tdX4_init_t0_ok 4 rfl
theorem dX4_init_10 : decode cX4_init 10 = .ok (.putfield 9, 3) := gz_d tdX4_init_t0_ok 5 rfl
theorem dX4_init_13 : decode cX4_init 13 = .ok (.aload_n 0, 1) := gz_d tdX4_init_t0_ok 6 rfl
theorem dX4_init_14 : decode cX4_init 14 = .ok (.getfield 9, 3) := gz_d tdX4_init_t0_ok 7 rfl
theorem dX4_init_17 : decode cX4_init 17 = .ok (.iconst 1, 1) := gz_d tdX4_init_t0_ok 8 rfl
theorem dX4_init_18 : decode cX4_init 18 = .ok (.invokestatic 15, 3) := gz_d tdX4_init_t0_ok 9 rfl
theorem dX4_init_21 : decode cX4_init 21 = .ok (.return_, 1) := gz_d tdX4_init_t0_ok 10 rfl
def tdX4_reset_t0 : List (Nat × Instr × Nat) := [(0, .aload_n 0, 1), (1, .getfield 9, 3), (4, .iconst 1, 1), (5, .invokestatic 15, 3), (8, .return_, 1)]
theorem tdX4_reset_t0_ok : gz_dec cX4_reset tdX4_reset_t0 = true := by decide +kernel
theorem dX4_reset_0 : decode cX4_reset 0 = .ok (.aload_n 0, 1) := gz_d tdX4_reset_t0_ok 0 rfl
theorem dX4_reset_1 : decode cX4_reset 1 = .ok (.getfield 9, 3) := gz_d tdX4_reset_t0_ok 1 rfl
theorem dX4_reset_4 : decode cX4_reset 4 = .ok (.iconst 1, 1) := gz_d tdX4_reset_t0_ok 2 rfl
theorem dX4_reset_5 : decode cX4_reset 5 = .ok (.invokestatic 15, 3) := gz_d tdX4_reset_t0_ok 3 rfl
theorem dX4_reset_8 : decode cX4_reset 8 = .ok (.return_, 1) := gz_d tdX4_reset_t0_ok 4 rfl
def tdX4_spot_t0 : List (Nat × Instr × Nat) := [(0, .iload_n 1, 1), (1, .iconst 3, 1), (2, .imul, 1), (3, .iload_n 2, 1), (4, .iadd, 1), (5, .iconst 1, 1), (6, .isub, 1), (7, .iconst 4, 1), (8, .imul, 1), (9, .iload_n 3, 1), (10, .iadd, 1), (11, .istore 6, 2), (13, .iload 6, 2), (15, .bipush 9, 2), (17, .imul, 1), (18, .iload 4, 2), (20, .iadd, 1), (21, .iconst 1, 1), (22, .iadd, 1), (23, .bipush 9, 2), (25, .imul, 1), (26, .iload 5, 2), (28, .iadd, 1), (29, .iconst 1, 1), (30, .iadd, 1), (31, .ireturn, 1)]
theorem tdX4_spot_t0_ok : gz_dec cX4_spot tdX4_spot_t0 = true := by decide +kernel
theorem dX4_spot_0 : decode cX4_spot 0 = .ok (.iload_n 1, 1) := gz_d tdX4_spot_t0_ok 0 rfl
theorem dX4_spot_1 : decode cX4_spot 1 = .ok (.iconst 3, 1) := gz_d tdX4_spot_t0_ok 1 rfl
theorem dX4_spot_2 : decode cX4_spot 2 = .ok (.imul, 1) := gz_d tdX4_spot_t0_ok 2 rfl
theorem dX4_spot_3 : decode cX4_spot 3 = .ok (.iload_n 2, 1) := gz_d tdX4_spot_t0_ok 3 rfl
theorem dX4_spot_4 : decode cX4_spot 4 = .ok (.iadd, 1) := gz_d tdX4_spot_t0_ok 4 rfl
theorem dX4_spot_5 : decode cX4_spot 5 = .ok (.iconst 1, 1) := gz_d tdX4_spot_t0_ok 5 rfl
theorem dX4_spot_6 : decode cX4_spot 6 = .ok (.isub, 1) := gz_d tdX4_spot_t0_ok 6 rfl
theorem dX4_spot_7 : decode cX4_spot 7 = .ok (.iconst 4, 1) := gz_d tdX4_spot_t0_ok 7 rfl
theorem dX4_spot_8 : decode cX4_spot 8 = .ok (.imul, 1) := gz_d tdX4_spot_t0_ok 8 rfl
theorem dX4_spot_9 : decode cX4_spot 9 = .ok (.iload_n 3, 1) := gz_d tdX4_spot_t0_ok 9 rfl
theorem dX4_spot_10 : decode cX4_spot 10 = .ok (.iadd, 1) := gz_d tdX4_spot_t0_ok 10 rfl
theorem dX4_spot_11 : decode cX4_spot 11 = .ok (.istore 6, 2) := gz_d tdX4_spot_t0_ok 11 rfl
theorem dX4_spot_13 : decode cX4_spot 13 = .ok (.iload 6, 2) := gz_d tdX4_spot_t0_ok 12 rfl
theorem dX4_spot_15 : decode cX4_spot 15 = .ok (.bipush 9, 2) := gz_d tdX4_spot_t0_ok 13 rfl
theorem dX4_spot_17 : decode cX4_spot 17 = .ok (.imul, 1) := gz_d tdX4_spot_t0_ok 14 rfl
theorem dX4_spot_18 : decode cX4_spot 18 = .ok (.iload 4, 2) := gz_d tdX4_spot_t0_ok 15 rfl
theorem dX4_spot_20 : decode cX4_spot 20 = .ok (.iadd, 1) := gz_d tdX4_spot_t0_ok 16 rfl
theorem dX4_spot_21 : decode cX4_spot 21 = .ok (.iconst 1, 1) := gz_d tdX4_spot_t0_ok 17 rfl
theorem dX4_spot_22 : decode cX4_spot 22 = .ok (.iadd, 1) := gz_d tdX4_spot_t0_ok 18 rfl
theorem dX4_spot_23 : decode cX4_spot 23 = .ok (.bipush 9, 2) := gz_d tdX4_spot_t0_ok 19 rfl
theorem dX4_spot_25 : decode cX4_spot 25 = .ok (.imul, 1) := gz_d tdX4_spot_t0_ok 20 rfl
theorem dX4_spot_26 : decode cX4_spot 26 = .ok (.iload 5, 2) := gz_d tdX4_spot_t0_ok 21 rfl
theorem dX4_spot_28 : decode cX4_spot 28 = .ok (.iadd, 1) := gz_d tdX4_spot_t0_ok 22 rfl
theorem dX4_spot_29 : decode cX4_spot 29 = .ok (.iconst 1, 1) := gz_d tdX4_spot_t0_ok 23 rfl
theorem dX4_spot_30 : decode cX4_spot 30 = .ok (.iadd, 1) := gz_d tdX4_spot_t0_ok 24 rfl
theorem dX4_spot_31 : decode cX4_spot 31 = .ok (.ireturn, 1) := gz_d tdX4_spot_t0_ok 25 rfl
def tdX4_change_t0 : List (Nat × Instr × Nat) := [(0, .aload_n 0, 1), (1, .getfield 9, 3), (4, .iload_n 1, 1), (5, .invokestatic 21, 3), (8, .istore_n 3, 1), (9, .aload_n 0, 1), (10, .getfield 9, 3), (13, .iload_n 1, 1), (14, .iload_n 2, 1), (15, .invokestatic 25, 3), (18, .iload_n 3, 1), (19, .ireturn, 1)]
theorem tdX4_change_t0_ok : gz_dec cX4_change tdX4_change_t0 = true := by decide +kernel
theorem dX4_change_0 : decode cX4_change 0 = .ok (.aload_n 0, 1) := gz_d tdX4_change_t0_ok 0 rfl
theorem dX4_change_1 : decode cX4_change 1 = .ok (.getfield 9, 3) := gz_d tdX4_change_t0_ok 1 rfl
theorem dX4_change_4 : decode cX4_change 4 = .ok (.iload_n 1, 1) := gz_d tdX4_change_t0_ok 2 rfl
theorem dX4_change_5 : decode cX4_change 5 = .ok (.invokestatic 21, 3) := gz_d tdX4_change_t0_ok 3 rfl
theorem dX4_change_8 : decode cX4_change 8 = .ok (.istore_n 3, 1) := gz_d tdX4_change_t0_ok 4 rfl
theorem dX4_change_9 : decode cX4_change 9 = .ok (.aload_n 0, 1) := gz_d tdX4_change_t0_ok 5 rfl
theorem dX4_change_10 : decode cX4_change 10 = .ok (.getfield 9, 3) := gz_d tdX4_change_t0_ok 6 rfl
theorem dX4_change_13 : decode cX4_change 13 = .ok (.iload_n 1, 1) := gz_d tdX4_change_t0_ok 7 rfl
theorem dX4_change_14 : decode cX4_change 14 = .ok (.iload_n 2, 1) := gz_d tdX4_change_t0_ok 8 rfl
theorem dX4_change_15 : decode cX4_change 15 = .ok (.invokestatic 25, 3) := gz_d tdX4_change_t0_ok 9 rfl
theorem dX4_change_18 : decode cX4_change 18 = .ok (.iload_n 3, 1) := gz_d tdX4_change_t0_ok 10 rfl
theorem dX4_change_19 : decode cX4_change 19 = .ok (.ireturn, 1) := gz_d tdX4_change_t0_ok 11 rfl
def tdX4_weightAt_t0 : List (Nat × Instr × Nat) := [(0, .aload_n 0, 1), (1, .getfield 9, 3), (4, .iload_n 1, 1), (5, .invokestatic 21, 3), (8, .ireturn, 1)]
theorem tdX4_weightAt_t0_ok : gz_dec cX4_weightAt tdX4_weightAt_t0 = true := by decide +kernel
theorem dX4_weightAt_0 : decode cX4_weightAt 0 = .ok (.aload_n 0, 1) := gz_d tdX4_weightAt_t0_ok 0 rfl
theorem dX4_weightAt_1 : decode cX4_weightAt 1 = .ok (.getfield 9, 3) := gz_d tdX4_weightAt_t0_ok 1 rfl
theorem dX4_weightAt_4 : decode cX4_weightAt 4 = .ok (.iload_n 1, 1) := gz_d tdX4_weightAt_t0_ok 2 rfl
theorem dX4_weightAt_5 : decode cX4_weightAt 5 = .ok (.invokestatic 21, 3) := gz_d tdX4_weightAt_t0_ok 3 rfl
theorem dX4_weightAt_8 : decode cX4_weightAt 8 = .ok (.ireturn, 1) := gz_d tdX4_weightAt_t0_ok 4 rfl
def tdX4_mix_t0 : List (Nat × Instr × Nat) := [(0, .lload_n 1, 1), (1, .lstore 6, 2), (3, .iconst 0, 1), (4, .istore 8, 2), (6, .iload 8, 2), (8, .aload 4, 2), (10, .getfield 29, 3), (13, .if_icmp .ge 81, 3), (16, .iconst (-1), 1), (17, .istore 9, 2), (19, .iload 9, 2), (21, .iload 5, 2), (23, .if_icmp .ge 65, 3), (26, .iconst (-1), 1), (27, .istore 10, 2), (29, .iload 10, 2), (31, .iload 5, 2), (33, .if_icmp .ge 49, 3), (36, .iload 9, 2), (38, .iload 10, 2), (40, .invokestatic 35, 3), (43, .ifCond .eq 33, 3), (46, .ldc2_w 39, 3), (49, .lload 6, 2), (51, .lmul, 1), (52, .aload_n 0, 1), (53, .aload_n 0, 1), (54, .iload_n 3, 1), (55, .aload 4, 2), (57, .getfield 41, 3), (60, .iload 8, 2), (62, .iload 9, 2), (64, .iload 10, 2), (66, .invokevirtual 44, 3), (69, .invokevirtual 48, 3), (72, .i2l, 1), (73, .ladd, 1), (74, .lstore 6, 2), (76, .iinc 10 1, 3), (79, .goto (-50), 3), (82, .iinc 9 1, 3), (85, .goto (-66), 3), (88, .iinc 8 1, 3), (91, .goto (-85), 3), (94, .lload 6, 2), (96, .lreturn, 1)]
theorem tdX4_mix_t0_ok : gz_dec cX4_mix tdX4_mix_t0 = true := by decide +kernel
theorem dX4_mix_0 : decode cX4_mix 0 = .ok (.lload_n 1, 1) := gz_d tdX4_mix_t0_ok 0 rfl
theorem dX4_mix_1 : decode cX4_mix 1 = .ok (.lstore 6, 2) := gz_d tdX4_mix_t0_ok 1 rfl
theorem dX4_mix_3 : decode cX4_mix 3 = .ok (.iconst 0, 1) := gz_d tdX4_mix_t0_ok 2 rfl
theorem dX4_mix_4 : decode cX4_mix 4 = .ok (.istore 8, 2) := gz_d tdX4_mix_t0_ok 3 rfl
theorem dX4_mix_6 : decode cX4_mix 6 = .ok (.iload 8, 2) := gz_d tdX4_mix_t0_ok 4 rfl
theorem dX4_mix_8 : decode cX4_mix 8 = .ok (.aload 4, 2) := gz_d tdX4_mix_t0_ok 5 rfl
theorem dX4_mix_10 : decode cX4_mix 10 = .ok (.getfield 29, 3) := gz_d tdX4_mix_t0_ok 6 rfl
theorem dX4_mix_13 : decode cX4_mix 13 = .ok (.if_icmp .ge 81, 3) := gz_d tdX4_mix_t0_ok 7 rfl
theorem dX4_mix_16 : decode cX4_mix 16 = .ok (.iconst (-1), 1) := gz_d tdX4_mix_t0_ok 8 rfl
theorem dX4_mix_17 : decode cX4_mix 17 = .ok (.istore 9, 2) := gz_d tdX4_mix_t0_ok 9 rfl
theorem dX4_mix_19 : decode cX4_mix 19 = .ok (.iload 9, 2) := gz_d tdX4_mix_t0_ok 10 rfl
theorem dX4_mix_21 : decode cX4_mix 21 = .ok (.iload 5, 2) := gz_d tdX4_mix_t0_ok 11 rfl
theorem dX4_mix_23 : decode cX4_mix 23 = .ok (.if_icmp .ge 65, 3) := gz_d tdX4_mix_t0_ok 12 rfl
theorem dX4_mix_26 : decode cX4_mix 26 = .ok (.iconst (-1), 1) := gz_d tdX4_mix_t0_ok 13 rfl
theorem dX4_mix_27 : decode cX4_mix 27 = .ok (.istore 10, 2) := gz_d tdX4_mix_t0_ok 14 rfl
theorem dX4_mix_29 : decode cX4_mix 29 = .ok (.iload 10, 2) := gz_d tdX4_mix_t0_ok 15 rfl
theorem dX4_mix_31 : decode cX4_mix 31 = .ok (.iload 5, 2) := gz_d tdX4_mix_t0_ok 16 rfl
theorem dX4_mix_33 : decode cX4_mix 33 = .ok (.if_icmp .ge 49, 3) := gz_d tdX4_mix_t0_ok 17 rfl
theorem dX4_mix_36 : decode cX4_mix 36 = .ok (.iload 9, 2) := gz_d tdX4_mix_t0_ok 18 rfl
theorem dX4_mix_38 : decode cX4_mix 38 = .ok (.iload 10, 2) := gz_d tdX4_mix_t0_ok 19 rfl
theorem dX4_mix_40 : decode cX4_mix 40 = .ok (.invokestatic 35, 3) := gz_d tdX4_mix_t0_ok 20 rfl
theorem dX4_mix_43 : decode cX4_mix 43 = .ok (.ifCond .eq 33, 3) := gz_d tdX4_mix_t0_ok 21 rfl
theorem dX4_mix_46 : decode cX4_mix 46 = .ok (.ldc2_w 39, 3) := gz_d tdX4_mix_t0_ok 22 rfl
theorem dX4_mix_49 : decode cX4_mix 49 = .ok (.lload 6, 2) := gz_d tdX4_mix_t0_ok 23 rfl
theorem dX4_mix_51 : decode cX4_mix 51 = .ok (.lmul, 1) := gz_d tdX4_mix_t0_ok 24 rfl
theorem dX4_mix_52 : decode cX4_mix 52 = .ok (.aload_n 0, 1) := gz_d tdX4_mix_t0_ok 25 rfl
theorem dX4_mix_53 : decode cX4_mix 53 = .ok (.aload_n 0, 1) := gz_d tdX4_mix_t0_ok 26 rfl
theorem dX4_mix_54 : decode cX4_mix 54 = .ok (.iload_n 3, 1) := gz_d tdX4_mix_t0_ok 27 rfl
theorem dX4_mix_55 : decode cX4_mix 55 = .ok (.aload 4, 2) := gz_d tdX4_mix_t0_ok 28 rfl
theorem dX4_mix_57 : decode cX4_mix 57 = .ok (.getfield 41, 3) := gz_d tdX4_mix_t0_ok 29 rfl
theorem dX4_mix_60 : decode cX4_mix 60 = .ok (.iload 8, 2) := gz_d tdX4_mix_t0_ok 30 rfl
theorem dX4_mix_62 : decode cX4_mix 62 = .ok (.iload 9, 2) := gz_d tdX4_mix_t0_ok 31 rfl
theorem dX4_mix_64 : decode cX4_mix 64 = .ok (.iload 10, 2) := gz_d tdX4_mix_t0_ok 32 rfl
theorem dX4_mix_66 : decode cX4_mix 66 = .ok (.invokevirtual 44, 3) := gz_d tdX4_mix_t0_ok 33 rfl
theorem dX4_mix_69 : decode cX4_mix 69 = .ok (.invokevirtual 48, 3) := gz_d tdX4_mix_t0_ok 34 rfl
theorem dX4_mix_72 : decode cX4_mix 72 = .ok (.i2l, 1) := gz_d tdX4_mix_t0_ok 35 rfl
theorem dX4_mix_73 : decode cX4_mix 73 = .ok (.ladd, 1) := gz_d tdX4_mix_t0_ok 36 rfl
theorem dX4_mix_74 : decode cX4_mix 74 = .ok (.lstore 6, 2) := gz_d tdX4_mix_t0_ok 37 rfl
theorem dX4_mix_76 : decode cX4_mix 76 = .ok (.iinc 10 1, 3) := gz_d tdX4_mix_t0_ok 38 rfl
theorem dX4_mix_79 : decode cX4_mix 79 = .ok (.goto (-50), 3) := gz_d tdX4_mix_t0_ok 39 rfl
theorem dX4_mix_82 : decode cX4_mix 82 = .ok (.iinc 9 1, 3) := gz_d tdX4_mix_t0_ok 40 rfl
theorem dX4_mix_85 : decode cX4_mix 85 = .ok (.goto (-66), 3) := gz_d tdX4_mix_t0_ok 41 rfl
theorem dX4_mix_88 : decode cX4_mix 88 = .ok (.iinc 8 1, 3) := gz_d tdX4_mix_t0_ok 42 rfl
theorem dX4_mix_91 : decode cX4_mix 91 = .ok (.goto (-85), 3) := gz_d tdX4_mix_t0_ok 43 rfl
theorem dX4_mix_94 : decode cX4_mix 94 = .ok (.lload 6, 2) := gz_d tdX4_mix_t0_ok 44 rfl
theorem dX4_mix_96 : decode cX4_mix 96 = .ok (.lreturn, 1) := gz_d tdX4_mix_t0_ok 45 rfl
def tdX5_init_t0 : List (Nat × Instr × Nat) := [(0, .aload_n 0, 1), (1, .invokespecial 3, 3), (4, .aload_n 0, 1), (5, .sipush 324, 3), (8, .newarray .double, 2), (10, .putfield 9, 3), (13, .return_, 1)]
theorem tdX5_init_t0_ok : gz_dec cX5_init tdX5_init_t0 = true := by decide +kernel
theorem dX5_init_0 : decode cX5_init 0 = .ok (.aload_n 0, 1) := gz_d tdX5_init_t0_ok 0 rfl
theorem dX5_init_1 : decode cX5_init 1 = .ok (.invokespecial 3, 3) := gz_d tdX5_init_t0_ok 1 rfl
theorem dX5_init_4 : decode cX5_init 4 = .ok (.aload_n 0, 1) := gz_d tdX5_init_t0_ok 2 rfl
theorem dX5_init_5 : decode cX5_init 5 = .ok (.sipush 324, 3) := gz_d tdX5_init_t0_ok 3 rfl
theorem dX5_init_8 : decode cX5_init 8 = .ok (.newarray .double, 2) := gz_d tdX5_init_t0_ok 4 rfl
theorem dX5_init_10 : decode cX5_init 10 = .ok (.putfield 9, 3) := gz_d tdX5_init_t0_ok 5 rfl
theorem dX5_init_13 : decode cX5_init 13 = .ok (.return_, 1) := gz_d tdX5_init_t0_ok 6 rfl
def tdX5_take_t0 : List (Nat × Instr × Nat) := [(0, .aload_n 0, 1), (1, .getfield 9, 3), (4, .dconst 0, 1), (5, .invokestatic 15, 3), (8, .iconst 0, 1), (9, .istore 5, 2), (11, .iload 5, 2), (13, .aload_n 3, 1), (14, .getfield 21, 3), (17, .if_icmp .ge 50, 3), (20, .iconst (-1), 1), (21, .istore 6, 2), (23, .iload 6, 2), (25, .iload 4, 2), (27, .if_icmp .ge 34, 3), (30, .aload_n 0, 1), (31, .aload_n 1, 1), (32, .aload_n 1, 1), (33, .iload_n 2, 1), (34, .aload_n 3, 1), (35, .getfield 27, 3), (38, .iload 5, 2), (40, .iload 6, 2), (42, .iconst (-1), 1), (43, .invokevirtual 30, 3), (46, .iload 5, 2), (48, .iload 6, 2), (50, .iload 4, 2), (52, .invokevirtual 36, 3), (55, .iinc 6 1, 3), (58, .goto (-35), 3), (61, .iinc 5 1, 3), (64, .goto (-53), 3), (67, .return_, 1)]
theorem tdX5_take_t0_ok : gz_dec cX5_take tdX5_take_t0 = true := by decide +kernel
theorem dX5_take_0 : decode cX5_take 0 = .ok (.aload_n 0, 1) := gz_d tdX5_take_t0_ok 0 rfl
theorem dX5_take_1 : decode cX5_take 1 = .ok (.getfield 9, 3) := gz_d tdX5_take_t0_ok 1 rfl
theorem dX5_take_4 : decode cX5_take 4 = .ok (.dconst 0, 1) := gz_d tdX5_take_t0_ok 2 rfl
theorem dX5_take_5 : decode cX5_take 5 = .ok (.invokestatic 15, 3) := gz_d tdX5_take_t0_ok 3 rfl
theorem dX5_take_8 : decode cX5_take 8 = .ok (.iconst 0, 1) := gz_d tdX5_take_t0_ok 4 rfl
theorem dX5_take_9 : decode cX5_take 9 = .ok (.istore 5, 2) := gz_d tdX5_take_t0_ok 5 rfl
theorem dX5_take_11 : decode cX5_take 11 = .ok (.iload 5, 2) := gz_d tdX5_take_t0_ok 6 rfl
theorem dX5_take_13 : decode cX5_take 13 = .ok (.aload_n 3, 1) := gz_d tdX5_take_t0_ok 7 rfl
theorem dX5_take_14 : decode cX5_take 14 = .ok (.getfield 21, 3) := gz_d tdX5_take_t0_ok 8 rfl
theorem dX5_take_17 : decode cX5_take 17 = .ok (.if_icmp .ge 50, 3) := gz_d tdX5_take_t0_ok 9 rfl
theorem dX5_take_20 : decode cX5_take 20 = .ok (.iconst (-1), 1) := gz_d tdX5_take_t0_ok 10 rfl
theorem dX5_take_21 : decode cX5_take 21 = .ok (.istore 6, 2) := gz_d tdX5_take_t0_ok 11 rfl
theorem dX5_take_23 : decode cX5_take 23 = .ok (.iload 6, 2) := gz_d tdX5_take_t0_ok 12 rfl
theorem dX5_take_25 : decode cX5_take 25 = .ok (.iload 4, 2) := gz_d tdX5_take_t0_ok 13 rfl
theorem dX5_take_27 : decode cX5_take 27 = .ok (.if_icmp .ge 34, 3) := gz_d tdX5_take_t0_ok 14 rfl
theorem dX5_take_30 : decode cX5_take 30 = .ok (.aload_n 0, 1) := gz_d tdX5_take_t0_ok 15 rfl
theorem dX5_take_31 : decode cX5_take 31 = .ok (.aload_n 1, 1) := gz_d tdX5_take_t0_ok 16 rfl
theorem dX5_take_32 : decode cX5_take 32 = .ok (.aload_n 1, 1) := gz_d tdX5_take_t0_ok 17 rfl
theorem dX5_take_33 : decode cX5_take 33 = .ok (.iload_n 2, 1) := gz_d tdX5_take_t0_ok 18 rfl
theorem dX5_take_34 : decode cX5_take 34 = .ok (.aload_n 3, 1) := gz_d tdX5_take_t0_ok 19 rfl
theorem dX5_take_35 : decode cX5_take 35 = .ok (.getfield 27, 3) := gz_d tdX5_take_t0_ok 20 rfl
theorem dX5_take_38 : decode cX5_take 38 = .ok (.iload 5, 2) := gz_d tdX5_take_t0_ok 21 rfl
theorem dX5_take_40 : decode cX5_take 40 = .ok (.iload 6, 2) := gz_d tdX5_take_t0_ok 22 rfl
theorem dX5_take_42 : decode cX5_take 42 = .ok (.iconst (-1), 1) := gz_d tdX5_take_t0_ok 23 rfl
theorem dX5_take_43 : decode cX5_take 43 = .ok (.invokevirtual 30, 3) := gz_d tdX5_take_t0_ok 24 rfl
theorem dX5_take_46 : decode cX5_take 46 = .ok (.iload 5, 2) := gz_d tdX5_take_t0_ok 25 rfl
theorem dX5_take_48 : decode cX5_take 48 = .ok (.iload 6, 2) := gz_d tdX5_take_t0_ok 26 rfl
theorem dX5_take_50 : decode cX5_take 50 = .ok (.iload 4, 2) := gz_d tdX5_take_t0_ok 27 rfl
theorem dX5_take_52 : decode cX5_take 52 = .ok (.invokevirtual 36, 3) := gz_d tdX5_take_t0_ok 28 rfl
theorem dX5_take_55 : decode cX5_take 55 = .ok (.iinc 6 1, 3) := gz_d tdX5_take_t0_ok 29 rfl
theorem dX5_take_58 : decode cX5_take 58 = .ok (.goto (-35), 3) := gz_d tdX5_take_t0_ok 30 rfl
theorem dX5_take_61 : decode cX5_take 61 = .ok (.iinc 5 1, 3) := gz_d tdX5_take_t0_ok 31 rfl
theorem dX5_take_64 : decode cX5_take 64 = .ok (.goto (-53), 3) := gz_d tdX5_take_t0_ok 32 rfl
theorem dX5_take_67 : decode cX5_take 67 = .ok (.return_, 1) := gz_d tdX5_take_t0_ok 33 rfl
def tdX5_takeMoves_t0 : List (Nat × Instr × Nat) := [(0, .iconst 0, 1), (1, .istore 6, 2), (3, .iconst (-1), 1), (4, .istore 7, 2), (6, .iload 7, 2), (8, .iload 5, 2), (10, .if_icmp .ge 34, 3), (13, .iload 4, 2), (15, .iload 7, 2), (17, .invokestatic 40, 3), (20, .ifCond .eq 18, 3), (23, .iload 6, 2), (25, .aload_n 1, 1), (26, .iload_n 2, 1), (27, .iconst 1, 1), (28, .iadd, 1), (29, .iload 7, 2), (31, .iadd, 1), (32, .invokevirtual 44, 3), (35, .iadd, 1), (36, .istore 6, 2), (38, .iinc 7 1, 3), (41, .goto (-35), 3), (44, .iload 6, 2), (46, .ifCond .gt 33, 3), (49, .iload 4, 2), (51, .iconst (-1), 1), (52, .if_icmp .ne 7, 3), (55, .iconst 0, 1), (56, .goto 4, 3), (59, .iconst (-1), 1), (60, .istore 7, 2), (62, .aload_n 0, 1), (63, .getfield 9, 3), (66, .iload_n 3, 1), (67, .iload 4, 2), (69, .iload 7, 2), (71, .invokestatic 48, 3), (74, .dconst 1, 1), (75, .invokestatic 52, 3), (78, .return_, 1), (79, .iconst (-1), 1), (80, .istore 7, 2), (82, .iload 7, 2), (84, .iload 5, 2), (86, .if_icmp .ge 53, 3), (89, .iload 4, 2), (91, .iload 7, 2), (93, .invokestatic 40, 3), (96, .ifCond .eq 37, 3), (99, .aload_n 1, 1), (100, .iload_n 2, 1), (101, .iconst 1, 1), (102, .iadd, 1), (103, .iload 7, 2), (105, .iadd, 1), (106, .invokevirtual 44, 3), (109, .i2d, 1), (110, .dstore 8, 2), (112, .aload_n 0, 1)]
theorem tdX5_takeMoves_t0_ok : gz_dec cX5_takeMoves tdX5_takeMoves_t0 = true := by decide +kernel
theorem dX5_takeMoves_0 : decode cX5_takeMoves 0 = .ok (.iconst 0, 1) := gz_d tdX5_takeMoves_t0_ok 0 rfl
theorem dX5_takeMoves_1 : decode cX5_takeMoves 1 = .ok (.istore 6, 2) := gz_d tdX5_takeMoves_t0_ok 1 rfl
theorem dX5_takeMoves_3 : decode cX5_takeMoves 3 = .ok (.iconst (-1), 1) := gz_d tdX5_takeMoves_t0_ok 2 rfl
theorem dX5_takeMoves_4 : decode cX5_takeMoves 4 = .ok (.istore 7, 2) := gz_d tdX5_takeMoves_t0_ok 3 rfl
theorem dX5_takeMoves_6 : decode cX5_takeMoves 6 = .ok (.iload 7, 2) := gz_d tdX5_takeMoves_t0_ok 4 rfl
theorem dX5_takeMoves_8 : decode cX5_takeMoves 8 = .ok (.iload 5, 2) := gz_d tdX5_takeMoves_t0_ok 5 rfl
theorem dX5_takeMoves_10 : decode cX5_takeMoves 10 = .ok (.if_icmp .ge 34, 3) := gz_d tdX5_takeMoves_t0_ok 6 rfl
theorem dX5_takeMoves_13 : decode cX5_takeMoves 13 = .ok (.iload 4, 2) := gz_d tdX5_takeMoves_t0_ok 7 rfl
theorem dX5_takeMoves_15 : decode cX5_takeMoves 15 = .ok (.iload 7, 2) := gz_d tdX5_takeMoves_t0_ok 8 rfl
theorem dX5_takeMoves_17 : decode cX5_takeMoves 17 = .ok (.invokestatic 40, 3) := gz_d tdX5_takeMoves_t0_ok 9 rfl
theorem dX5_takeMoves_20 : decode cX5_takeMoves 20 = .ok (.ifCond .eq 18, 3) := gz_d tdX5_takeMoves_t0_ok 10 rfl
theorem dX5_takeMoves_23 : decode cX5_takeMoves 23 = .ok (.iload 6, 2) := gz_d tdX5_takeMoves_t0_ok 11 rfl
theorem dX5_takeMoves_25 : decode cX5_takeMoves 25 = .ok (.aload_n 1, 1) := gz_d tdX5_takeMoves_t0_ok 12 rfl
theorem dX5_takeMoves_26 : decode cX5_takeMoves 26 = .ok (.iload_n 2, 1) := gz_d tdX5_takeMoves_t0_ok 13 rfl
theorem dX5_takeMoves_27 : decode cX5_takeMoves 27 = .ok (.iconst 1, 1) := gz_d tdX5_takeMoves_t0_ok 14 rfl
theorem dX5_takeMoves_28 : decode cX5_takeMoves 28 = .ok (.iadd, 1) := gz_d tdX5_takeMoves_t0_ok 15 rfl
theorem dX5_takeMoves_29 : decode cX5_takeMoves 29 = .ok (.iload 7, 2) := gz_d tdX5_takeMoves_t0_ok 16 rfl
theorem dX5_takeMoves_31 : decode cX5_takeMoves 31 = .ok (.iadd, 1) := gz_d tdX5_takeMoves_t0_ok 17 rfl
theorem dX5_takeMoves_32 : decode cX5_takeMoves 32 = .ok (.invokevirtual 44, 3) := gz_d tdX5_takeMoves_t0_ok 18 rfl
theorem dX5_takeMoves_35 : decode cX5_takeMoves 35 = .ok (.iadd, 1) := gz_d tdX5_takeMoves_t0_ok 19 rfl
theorem dX5_takeMoves_36 : decode cX5_takeMoves 36 = .ok (.istore 6, 2) := gz_d tdX5_takeMoves_t0_ok 20 rfl
theorem dX5_takeMoves_38 : decode cX5_takeMoves 38 = .ok (.iinc 7 1, 3) := gz_d tdX5_takeMoves_t0_ok 21 rfl
theorem dX5_takeMoves_41 : decode cX5_takeMoves 41 = .ok (.goto (-35), 3) := gz_d tdX5_takeMoves_t0_ok 22 rfl
theorem dX5_takeMoves_44 : decode cX5_takeMoves 44 = .ok (.iload 6, 2) := gz_d tdX5_takeMoves_t0_ok 23 rfl
theorem dX5_takeMoves_46 : decode cX5_takeMoves 46 = .ok (.ifCond .gt 33, 3) := gz_d tdX5_takeMoves_t0_ok 24 rfl
theorem dX5_takeMoves_49 : decode cX5_takeMoves 49 = .ok (.iload 4, 2) := gz_d tdX5_takeMoves_t0_ok 25 rfl
theorem dX5_takeMoves_51 : decode cX5_takeMoves 51 = .ok (.iconst (-1), 1) := gz_d tdX5_takeMoves_t0_ok 26 rfl
theorem dX5_takeMoves_52 : decode cX5_takeMoves 52 = .ok (.if_icmp .ne 7, 3) := gz_d tdX5_takeMoves_t0_ok 27 rfl
theorem dX5_takeMoves_55 : decode cX5_takeMoves 55 = .ok (.iconst 0, 1) := gz_d tdX5_takeMoves_t0_ok 28 rfl
theorem dX5_takeMoves_56 : decode cX5_takeMoves 56 = .ok (.goto 4, 3) := gz_d tdX5_takeMoves_t0_ok 29 rfl
theorem dX5_takeMoves_59 : decode cX5_takeMoves 59 = .ok (.iconst (-1), 1) := gz_d tdX5_takeMoves_t0_ok 30 rfl
theorem dX5_takeMoves_60 : decode cX5_takeMoves 60 = .ok (.istore 7, 2) := gz_d tdX5_takeMoves_t0_ok 31 rfl
theorem dX5_takeMoves_62 : decode cX5_takeMoves 62 = .ok (.aload_n 0, 1) := gz_d tdX5_takeMoves_t0_ok 32 rfl
theorem dX5_takeMoves_63 : decode cX5_takeMoves 63 = .ok (.getfield 9, 3) := gz_d tdX5_takeMoves_t0_ok 33 rfl
theorem dX5_takeMoves_66 : decode cX5_takeMoves 66 = .ok (.iload_n 3, 1) := gz_d tdX5_takeMoves_t0_ok 34 rfl
theorem dX5_takeMoves_67 : decode cX5_takeMoves 67 = .ok (.iload 4, 2) := gz_d tdX5_takeMoves_t0_ok 35 rfl
theorem dX5_takeMoves_69 : decode cX5_takeMoves 69 = .ok (.iload 7, 2) := gz_d tdX5_takeMoves_t0_ok 36 rfl
theorem dX5_takeMoves_71 : decode cX5_takeMoves 71 = .ok (.invokestatic 48, 3) := gz_d tdX5_takeMoves_t0_ok 37 rfl
theorem dX5_takeMoves_74 : decode cX5_takeMoves 74 = .ok (.dconst 1, 1) := gz_d tdX5_takeMoves_t0_ok 38 rfl
theorem dX5_takeMoves_75 : decode cX5_takeMoves 75 = .ok (.invokestatic 52, 3) := gz_d tdX5_takeMoves_t0_ok 39 rfl
theorem dX5_takeMoves_78 : decode cX5_takeMoves 78 = .ok (.return_, 1) := gz_d tdX5_takeMoves_t0_ok 40 rfl
theorem dX5_takeMoves_79 : decode cX5_takeMoves 79 = .ok (.iconst (-1), 1) := gz_d tdX5_takeMoves_t0_ok 41 rfl
theorem dX5_takeMoves_80 : decode cX5_takeMoves 80 = .ok (.istore 7, 2) := gz_d tdX5_takeMoves_t0_ok 42 rfl
theorem dX5_takeMoves_82 : decode cX5_takeMoves 82 = .ok (.iload 7, 2) := gz_d tdX5_takeMoves_t0_ok 43 rfl
theorem dX5_takeMoves_84 : decode cX5_takeMoves 84 = .ok (.iload 5, 2) := gz_d tdX5_takeMoves_t0_ok 44 rfl
theorem dX5_takeMoves_86 : decode cX5_takeMoves 86 = .ok (.if_icmp .ge 53, 3) := gz_d tdX5_takeMoves_t0_ok 45 rfl
theorem dX5_takeMoves_89 : decode cX5_takeMoves 89 = .ok (.iload 4, 2) := gz_d tdX5_takeMoves_t0_ok 46 rfl
theorem dX5_takeMoves_91 : decode cX5_takeMoves 91 = .ok (.iload 7, 2) := gz_d tdX5_takeMoves_t0_ok 47 rfl
theorem dX5_takeMoves_93 : decode cX5_takeMoves 93 = .ok (.invokestatic 40, 3) := gz_d tdX5_takeMoves_t0_ok 48 rfl
theorem dX5_takeMoves_96 : decode cX5_takeMoves 96 = .ok (.ifCond .eq 37, 3) := gz_d tdX5_takeMoves_t0_ok 49 rfl
theorem dX5_takeMoves_99 : decode cX5_takeMoves 99 = .ok (.aload_n 1, 1) := gz_d tdX5_takeMoves_t0_ok 50 rfl
theorem dX5_takeMoves_100 : decode cX5_takeMoves 100 = .ok (.iload_n 2, 1) := gz_d tdX5_takeMoves_t0_ok 51 rfl
theorem dX5_takeMoves_101 : decode cX5_takeMoves 101 = .ok (.iconst 1, 1) := gz_d tdX5_takeMoves_t0_ok 52 rfl
theorem dX5_takeMoves_102 : decode cX5_takeMoves 102 = .ok (.iadd, 1) := gz_d tdX5_takeMoves_t0_ok 53 rfl
theorem dX5_takeMoves_103 : decode cX5_takeMoves 103 = .ok (.iload 7, 2) := gz_d tdX5_takeMoves_t0_ok 54 rfl
theorem dX5_takeMoves_105 : decode cX5_takeMoves 105 = .ok (.iadd, 1) := gz_d tdX5_takeMoves_t0_ok 55 rfl
theorem dX5_takeMoves_106 : decode cX5_takeMoves 106 = .ok (.invokevirtual 44, 3) := gz_d tdX5_takeMoves_t0_ok 56 rfl
theorem dX5_takeMoves_109 : decode cX5_takeMoves 109 = .ok (.i2d, 1) := gz_d tdX5_takeMoves_t0_ok 57 rfl
theorem dX5_takeMoves_110 : decode cX5_takeMoves 110 = .ok (.dstore 8, 2) := gz_d tdX5_takeMoves_t0_ok 58 rfl
theorem dX5_takeMoves_112 : decode cX5_takeMoves 112 = .ok (.aload_n 0, 1) := gz_d tdX5_takeMoves_t0_ok 59 rfl
def tdX5_takeMoves_t1 : List (Nat × Instr × Nat) := [(113, .getfield 9, 3), (116, .iload_n 3, 1), (117, .iload 4, 2), (119, .iload 7, 2), (121, .invokestatic 48, 3), (124, .dload 8, 2), (126, .iload 6, 2), (128, .i2d, 1), (129, .ddiv, 1), (130, .invokestatic 52, 3), (133, .iinc 7 1, 3), (136, .goto (-54), 3), (139, .return_, 1)]
theorem tdX5_takeMoves_t1_ok : gz_dec cX5_takeMoves tdX5_takeMoves_t1 = true := by decide +kernel
theorem dX5_takeMoves_113 : decode cX5_takeMoves 113 = .ok (.getfield 9, 3) := gz_d tdX5_takeMoves_t1_ok 0 rfl
theorem dX5_takeMoves_116 : decode cX5_takeMoves 116 = .ok (.iload_n 3, 1) := gz_d tdX5_takeMoves_t1_ok 1 rfl
theorem dX5_takeMoves_117 : decode cX5_takeMoves 117 = .ok (.iload 4, 2) := gz_d tdX5_takeMoves_t1_ok 2 rfl
theorem dX5_takeMoves_119 : decode cX5_takeMoves 119 = .ok (.iload 7, 2) := gz_d tdX5_takeMoves_t1_ok 3 rfl
theorem dX5_takeMoves_121 : decode cX5_takeMoves 121 = .ok (.invokestatic 48, 3) := gz_d tdX5_takeMoves_t1_ok 4 rfl
theorem dX5_takeMoves_124 : decode cX5_takeMoves 124 = .ok (.dload 8, 2) := gz_d tdX5_takeMoves_t1_ok 5 rfl
theorem dX5_takeMoves_126 : decode cX5_takeMoves 126 = .ok (.iload 6, 2) := gz_d tdX5_takeMoves_t1_ok 6 rfl
theorem dX5_takeMoves_128 : decode cX5_takeMoves 128 = .ok (.i2d, 1) := gz_d tdX5_takeMoves_t1_ok 7 rfl
theorem dX5_takeMoves_129 : decode cX5_takeMoves 129 = .ok (.ddiv, 1) := gz_d tdX5_takeMoves_t1_ok 8 rfl
theorem dX5_takeMoves_130 : decode cX5_takeMoves 130 = .ok (.invokestatic 52, 3) := gz_d tdX5_takeMoves_t1_ok 9 rfl
theorem dX5_takeMoves_133 : decode cX5_takeMoves 133 = .ok (.iinc 7 1, 3) := gz_d tdX5_takeMoves_t1_ok 10 rfl
theorem dX5_takeMoves_136 : decode cX5_takeMoves 136 = .ok (.goto (-54), 3) := gz_d tdX5_takeMoves_t1_ok 11 rfl
theorem dX5_takeMoves_139 : decode cX5_takeMoves 139 = .ok (.return_, 1) := gz_d tdX5_takeMoves_t1_ok 12 rfl
def tdX5_spotOf_t0 : List (Nat × Instr × Nat) := [(0, .iload_n 0, 1), (1, .bipush 9, 2), (3, .imul, 1), (4, .iload_n 1, 1), (5, .iadd, 1), (6, .iconst 1, 1), (7, .iadd, 1), (8, .bipush 9, 2), (10, .imul, 1), (11, .iload_n 2, 1), (12, .iadd, 1), (13, .iconst 1, 1), (14, .iadd, 1), (15, .ireturn, 1)]
theorem tdX5_spotOf_t0_ok : gz_dec cX5_spotOf tdX5_spotOf_t0 = true := by decide +kernel
theorem dX5_spotOf_0 : decode cX5_spotOf 0 = .ok (.iload_n 0, 1) := gz_d tdX5_spotOf_t0_ok 0 rfl
theorem dX5_spotOf_1 : decode cX5_spotOf 1 = .ok (.bipush 9, 2) := gz_d tdX5_spotOf_t0_ok 1 rfl
theorem dX5_spotOf_3 : decode cX5_spotOf 3 = .ok (.imul, 1) := gz_d tdX5_spotOf_t0_ok 2 rfl
theorem dX5_spotOf_4 : decode cX5_spotOf 4 = .ok (.iload_n 1, 1) := gz_d tdX5_spotOf_t0_ok 3 rfl
theorem dX5_spotOf_5 : decode cX5_spotOf 5 = .ok (.iadd, 1) := gz_d tdX5_spotOf_t0_ok 4 rfl
theorem dX5_spotOf_6 : decode cX5_spotOf 6 = .ok (.iconst 1, 1) := gz_d tdX5_spotOf_t0_ok 5 rfl
theorem dX5_spotOf_7 : decode cX5_spotOf 7 = .ok (.iadd, 1) := gz_d tdX5_spotOf_t0_ok 6 rfl
theorem dX5_spotOf_8 : decode cX5_spotOf 8 = .ok (.bipush 9, 2) := gz_d tdX5_spotOf_t0_ok 7 rfl
theorem dX5_spotOf_10 : decode cX5_spotOf 10 = .ok (.imul, 1) := gz_d tdX5_spotOf_t0_ok 8 rfl
theorem dX5_spotOf_11 : decode cX5_spotOf 11 = .ok (.iload_n 2, 1) := gz_d tdX5_spotOf_t0_ok 9 rfl
theorem dX5_spotOf_12 : decode cX5_spotOf 12 = .ok (.iadd, 1) := gz_d tdX5_spotOf_t0_ok 10 rfl
theorem dX5_spotOf_13 : decode cX5_spotOf 13 = .ok (.iconst 1, 1) := gz_d tdX5_spotOf_t0_ok 11 rfl
theorem dX5_spotOf_14 : decode cX5_spotOf 14 = .ok (.iadd, 1) := gz_d tdX5_spotOf_t0_ok 12 rfl
theorem dX5_spotOf_15 : decode cX5_spotOf 15 = .ok (.ireturn, 1) := gz_d tdX5_spotOf_t0_ok 13 rfl
def tdX5_of_t0 : List (Nat × Instr × Nat) := [(0, .aload_n 0, 1), (1, .getfield 9, 3), (4, .iload_n 1, 1), (5, .iload_n 2, 1), (6, .iload_n 3, 1), (7, .invokestatic 48, 3), (10, .invokestatic 56, 3), (13, .dreturn, 1)]
theorem tdX5_of_t0_ok : gz_dec cX5_of tdX5_of_t0 = true := by decide +kernel
theorem dX5_of_0 : decode cX5_of 0 = .ok (.aload_n 0, 1) := gz_d tdX5_of_t0_ok 0 rfl
theorem dX5_of_1 : decode cX5_of 1 = .ok (.getfield 9, 3) := gz_d tdX5_of_t0_ok 1 rfl
theorem dX5_of_4 : decode cX5_of 4 = .ok (.iload_n 1, 1) := gz_d tdX5_of_t0_ok 2 rfl
theorem dX5_of_5 : decode cX5_of 5 = .ok (.iload_n 2, 1) := gz_d tdX5_of_t0_ok 3 rfl
theorem dX5_of_6 : decode cX5_of 6 = .ok (.iload_n 3, 1) := gz_d tdX5_of_t0_ok 4 rfl
theorem dX5_of_7 : decode cX5_of 7 = .ok (.invokestatic 48, 3) := gz_d tdX5_of_t0_ok 5 rfl
theorem dX5_of_10 : decode cX5_of 10 = .ok (.invokestatic 56, 3) := gz_d tdX5_of_t0_ok 6 rfl
theorem dX5_of_13 : decode cX5_of 13 = .ok (.dreturn, 1) := gz_d tdX5_of_t0_ok 7 rfl
def tdX6_init_t0 : List (Nat × Instr × Nat) := [(0, .aload_n 0, 1), (1, .invokespecial 3, 3), (4, .aload_n 0, 1), (5, .new 9, 3), (8, .dup, 1), (9, .invokespecial 11, 3), (12, .putfield 12, 3), (15, .aload_n 0, 1), (16, .new 9, 3), (19, .dup, 1), (20, .invokespecial 11, 3), (23, .putfield 18, 3), (26, .aload_n 0, 1), (27, .sipush 128, 3), (30, .newarray .int, 2), (32, .putfield 21, 3), (35, .return_, 1)]
theorem tdX6_init_t0_ok : gz_dec cX6_init tdX6_init_t0 = true := by decide +kernel
theorem dX6_init_0 : decode cX6_init 0 = .ok (.aload_n 0, 1) := gz_d tdX6_init_t0_ok 0 rfl
theorem dX6_init_1 : decode cX6_init 1 = .ok (.invokespecial 3, 3) := gz_d tdX6_init_t0_ok 1 rfl
theorem dX6_init_4 : decode cX6_init 4 = .ok (.aload_n 0, 1) := gz_d tdX6_init_t0_ok 2 rfl
theorem dX6_init_5 : decode cX6_init 5 = .ok (.new 9, 3) := gz_d tdX6_init_t0_ok 3 rfl
theorem dX6_init_8 : decode cX6_init 8 = .ok (.dup, 1) := gz_d tdX6_init_t0_ok 4 rfl
theorem dX6_init_9 : decode cX6_init 9 = .ok (.invokespecial 11, 3) := gz_d tdX6_init_t0_ok 5 rfl
theorem dX6_init_12 : decode cX6_init 12 = .ok (.putfield 12, 3) := gz_d tdX6_init_t0_ok 6 rfl
theorem dX6_init_15 : decode cX6_init 15 = .ok (.aload_n 0, 1) := gz_d tdX6_init_t0_ok 7 rfl
theorem dX6_init_16 : decode cX6_init 16 = .ok (.new 9, 3) := gz_d tdX6_init_t0_ok 8 rfl
theorem dX6_init_19 : decode cX6_init 19 = .ok (.dup, 1) := gz_d tdX6_init_t0_ok 9 rfl
theorem dX6_init_20 : decode cX6_init 20 = .ok (.invokespecial 11, 3) := gz_d tdX6_init_t0_ok 10 rfl
theorem dX6_init_23 : decode cX6_init 23 = .ok (.putfield 18, 3) := gz_d tdX6_init_t0_ok 11 rfl
theorem dX6_init_26 : decode cX6_init 26 = .ok (.aload_n 0, 1) := gz_d tdX6_init_t0_ok 12 rfl
theorem dX6_init_27 : decode cX6_init 27 = .ok (.sipush 128, 3) := gz_d tdX6_init_t0_ok 13 rfl
theorem dX6_init_30 : decode cX6_init 30 = .ok (.newarray .int, 2) := gz_d tdX6_init_t0_ok 14 rfl
theorem dX6_init_32 : decode cX6_init 32 = .ok (.putfield 21, 3) := gz_d tdX6_init_t0_ok 15 rfl
theorem dX6_init_35 : decode cX6_init 35 = .ok (.return_, 1) := gz_d tdX6_init_t0_ok 16 rfl
def tdX6_lay_t0 : List (Nat × Instr × Nat) := [(0, .aload_n 0, 1), (1, .iload_n 3, 1), (2, .putfield 25, 3), (5, .aload_n 0, 1), (6, .iload 4, 2), (8, .putfield 29, 3), (11, .aload_n 0, 1), (12, .iload_n 1, 1), (13, .iload_n 2, 1), (14, .iadd, 1), (15, .iload_n 3, 1), (16, .imul, 1), (17, .putfield 33, 3), (20, .aload_n 0, 1), (21, .getfield 12, 3), (24, .iload_n 1, 1), (25, .iload_n 3, 1), (26, .invokevirtual 36, 3), (29, .aload_n 0, 1), (30, .getfield 18, 3), (33, .iload_n 2, 1), (34, .iload_n 3, 1), (35, .invokevirtual 36, 3), (38, .aload_n 0, 1), (39, .invokevirtual 40, 3), (42, .return_, 1)]
theorem tdX6_lay_t0_ok : gz_dec cX6_lay tdX6_lay_t0 = true := by decide +kernel
theorem dX6_lay_0 : decode cX6_lay 0 = .ok (.aload_n 0, 1) := gz_d tdX6_lay_t0_ok 0 rfl
theorem dX6_lay_1 : decode cX6_lay 1 = .ok (.iload_n 3, 1) := gz_d tdX6_lay_t0_ok 1 rfl
theorem dX6_lay_2 : decode cX6_lay 2 = .ok (.putfield 25, 3) := gz_d tdX6_lay_t0_ok 2 rfl
theorem dX6_lay_5 : decode cX6_lay 5 = .ok (.aload_n 0, 1) := gz_d tdX6_lay_t0_ok 3 rfl
theorem dX6_lay_6 : decode cX6_lay 6 = .ok (.iload 4, 2) := gz_d tdX6_lay_t0_ok 4 rfl
theorem dX6_lay_8 : decode cX6_lay 8 = .ok (.putfield 29, 3) := gz_d tdX6_lay_t0_ok 5 rfl
theorem dX6_lay_11 : decode cX6_lay 11 = .ok (.aload_n 0, 1) := gz_d tdX6_lay_t0_ok 6 rfl
theorem dX6_lay_12 : decode cX6_lay 12 = .ok (.iload_n 1, 1) := gz_d tdX6_lay_t0_ok 7 rfl
theorem dX6_lay_13 : decode cX6_lay 13 = .ok (.iload_n 2, 1) := gz_d tdX6_lay_t0_ok 8 rfl
theorem dX6_lay_14 : decode cX6_lay 14 = .ok (.iadd, 1) := gz_d tdX6_lay_t0_ok 9 rfl
theorem dX6_lay_15 : decode cX6_lay 15 = .ok (.iload_n 3, 1) := gz_d tdX6_lay_t0_ok 10 rfl
theorem dX6_lay_16 : decode cX6_lay 16 = .ok (.imul, 1) := gz_d tdX6_lay_t0_ok 11 rfl
theorem dX6_lay_17 : decode cX6_lay 17 = .ok (.putfield 33, 3) := gz_d tdX6_lay_t0_ok 12 rfl
theorem dX6_lay_20 : decode cX6_lay 20 = .ok (.aload_n 0, 1) := gz_d tdX6_lay_t0_ok 13 rfl
theorem dX6_lay_21 : decode cX6_lay 21 = .ok (.getfield 12, 3) := gz_d tdX6_lay_t0_ok 14 rfl
theorem dX6_lay_24 : decode cX6_lay 24 = .ok (.iload_n 1, 1) := gz_d tdX6_lay_t0_ok 15 rfl
theorem dX6_lay_25 : decode cX6_lay 25 = .ok (.iload_n 3, 1) := gz_d tdX6_lay_t0_ok 16 rfl
theorem dX6_lay_26 : decode cX6_lay 26 = .ok (.invokevirtual 36, 3) := gz_d tdX6_lay_t0_ok 17 rfl
theorem dX6_lay_29 : decode cX6_lay 29 = .ok (.aload_n 0, 1) := gz_d tdX6_lay_t0_ok 18 rfl
theorem dX6_lay_30 : decode cX6_lay 30 = .ok (.getfield 18, 3) := gz_d tdX6_lay_t0_ok 19 rfl
theorem dX6_lay_33 : decode cX6_lay 33 = .ok (.iload_n 2, 1) := gz_d tdX6_lay_t0_ok 20 rfl
theorem dX6_lay_34 : decode cX6_lay 34 = .ok (.iload_n 3, 1) := gz_d tdX6_lay_t0_ok 21 rfl
theorem dX6_lay_35 : decode cX6_lay 35 = .ok (.invokevirtual 36, 3) := gz_d tdX6_lay_t0_ok 22 rfl
theorem dX6_lay_38 : decode cX6_lay 38 = .ok (.aload_n 0, 1) := gz_d tdX6_lay_t0_ok 23 rfl
theorem dX6_lay_39 : decode cX6_lay 39 = .ok (.invokevirtual 40, 3) := gz_d tdX6_lay_t0_ok 24 rfl
theorem dX6_lay_42 : decode cX6_lay 42 = .ok (.return_, 1) := gz_d tdX6_lay_t0_ok 25 rfl
def tdX6_judgeBids_t0 : List (Nat × Instr × Nat) := [(0, .iconst 0, 1), (1, .istore_n 1, 1), (2, .iload_n 1, 1), (3, .aload_n 0, 1), (4, .getfield 12, 3), (7, .getfield 43, 3), (10, .if_icmp .ge 51, 3), (13, .iconst 0, 1), (14, .istore_n 2, 1), (15, .iload_n 2, 1), (16, .aload_n 0, 1), (17, .getfield 18, 3), (20, .getfield 43, 3), (23, .if_icmp .ge 32, 3), (26, .iconst 0, 1), (27, .istore_n 3, 1), (28, .iload_n 3, 1), (29, .aload_n 0, 1), (30, .getfield 33, 3), (33, .if_icmp .ge 16, 3), (36, .aload_n 0, 1), (37, .iload_n 1, 1), (38, .iload_n 2, 1), (39, .iload_n 3, 1), (40, .invokevirtual 46, 3), (43, .iinc 3 1, 3), (46, .goto (-18), 3), (49, .iinc 2 1, 3), (52, .goto (-37), 3), (55, .iinc 1 1, 3), (58, .goto (-56), 3), (61, .return_, 1)]
theorem tdX6_judgeBids_t0_ok : gz_dec cX6_judgeBids tdX6_judgeBids_t0 = true := by decide +kernel
theorem dX6_judgeBids_0 : decode cX6_judgeBids 0 = .ok (.iconst 0, 1) := gz_d tdX6_judgeBids_t0_ok 0 rfl
theorem dX6_judgeBids_1 : decode cX6_judgeBids 1 = .ok (.istore_n 1, 1) := gz_d tdX6_judgeBids_t0_ok 1 rfl
theorem dX6_judgeBids_2 : decode cX6_judgeBids 2 = .ok (.iload_n 1, 1) := gz_d tdX6_judgeBids_t0_ok 2 rfl
theorem dX6_judgeBids_3 : decode cX6_judgeBids 3 = .ok (.aload_n 0, 1) := gz_d tdX6_judgeBids_t0_ok 3 rfl
theorem dX6_judgeBids_4 : decode cX6_judgeBids 4 = .ok (.getfield 12, 3) := gz_d tdX6_judgeBids_t0_ok 4 rfl
theorem dX6_judgeBids_7 : decode cX6_judgeBids 7 = .ok (.getfield 43, 3) := gz_d tdX6_judgeBids_t0_ok 5 rfl
theorem dX6_judgeBids_10 : decode cX6_judgeBids 10 = .ok (.if_icmp .ge 51, 3) := gz_d tdX6_judgeBids_t0_ok 6 rfl
theorem dX6_judgeBids_13 : decode cX6_judgeBids 13 = .ok (.iconst 0, 1) := gz_d tdX6_judgeBids_t0_ok 7 rfl
theorem dX6_judgeBids_14 : decode cX6_judgeBids 14 = .ok (.istore_n 2, 1) := gz_d tdX6_judgeBids_t0_ok 8 rfl
theorem dX6_judgeBids_15 : decode cX6_judgeBids 15 = .ok (.iload_n 2, 1) := gz_d tdX6_judgeBids_t0_ok 9 rfl
theorem dX6_judgeBids_16 : decode cX6_judgeBids 16 = .ok (.aload_n 0, 1) := gz_d tdX6_judgeBids_t0_ok 10 rfl
theorem dX6_judgeBids_17 : decode cX6_judgeBids 17 = .ok (.getfield 18, 3) := gz_d tdX6_judgeBids_t0_ok 11 rfl
theorem dX6_judgeBids_20 : decode cX6_judgeBids 20 = .ok (.getfield 43, 3) := gz_d tdX6_judgeBids_t0_ok 12 rfl
theorem dX6_judgeBids_23 : decode cX6_judgeBids 23 = .ok (.if_icmp .ge 32, 3) := gz_d tdX6_judgeBids_t0_ok 13 rfl
theorem dX6_judgeBids_26 : decode cX6_judgeBids 26 = .ok (.iconst 0, 1) := gz_d tdX6_judgeBids_t0_ok 14 rfl
theorem dX6_judgeBids_27 : decode cX6_judgeBids 27 = .ok (.istore_n 3, 1) := gz_d tdX6_judgeBids_t0_ok 15 rfl
theorem dX6_judgeBids_28 : decode cX6_judgeBids 28 = .ok (.iload_n 3, 1) := gz_d tdX6_judgeBids_t0_ok 16 rfl
theorem dX6_judgeBids_29 : decode cX6_judgeBids 29 = .ok (.aload_n 0, 1) := gz_d tdX6_judgeBids_t0_ok 17 rfl
theorem dX6_judgeBids_30 : decode cX6_judgeBids 30 = .ok (.getfield 33, 3) := gz_d tdX6_judgeBids_t0_ok 18 rfl
theorem dX6_judgeBids_33 : decode cX6_judgeBids 33 = .ok (.if_icmp .ge 16, 3) := gz_d tdX6_judgeBids_t0_ok 19 rfl
theorem dX6_judgeBids_36 : decode cX6_judgeBids 36 = .ok (.aload_n 0, 1) := gz_d tdX6_judgeBids_t0_ok 20 rfl
theorem dX6_judgeBids_37 : decode cX6_judgeBids 37 = .ok (.iload_n 1, 1) := gz_d tdX6_judgeBids_t0_ok 21 rfl
theorem dX6_judgeBids_38 : decode cX6_judgeBids 38 = .ok (.iload_n 2, 1) := gz_d tdX6_judgeBids_t0_ok 22 rfl
theorem dX6_judgeBids_39 : decode cX6_judgeBids 39 = .ok (.iload_n 3, 1) := gz_d tdX6_judgeBids_t0_ok 23 rfl
theorem dX6_judgeBids_40 : decode cX6_judgeBids 40 = .ok (.invokevirtual 46, 3) := gz_d tdX6_judgeBids_t0_ok 24 rfl
theorem dX6_judgeBids_43 : decode cX6_judgeBids 43 = .ok (.iinc 3 1, 3) := gz_d tdX6_judgeBids_t0_ok 25 rfl
theorem dX6_judgeBids_46 : decode cX6_judgeBids 46 = .ok (.goto (-18), 3) := gz_d tdX6_judgeBids_t0_ok 26 rfl
theorem dX6_judgeBids_49 : decode cX6_judgeBids 49 = .ok (.iinc 2 1, 3) := gz_d tdX6_judgeBids_t0_ok 27 rfl
theorem dX6_judgeBids_52 : decode cX6_judgeBids 52 = .ok (.goto (-37), 3) := gz_d tdX6_judgeBids_t0_ok 28 rfl
theorem dX6_judgeBids_55 : decode cX6_judgeBids 55 = .ok (.iinc 1 1, 3) := gz_d tdX6_judgeBids_t0_ok 29 rfl
theorem dX6_judgeBids_58 : decode cX6_judgeBids 58 = .ok (.goto (-56), 3) := gz_d tdX6_judgeBids_t0_ok 30 rfl
theorem dX6_judgeBids_61 : decode cX6_judgeBids 61 = .ok (.return_, 1) := gz_d tdX6_judgeBids_t0_ok 31 rfl
def tdX6_judge_t0 : List (Nat × Instr × Nat) := [(0, .iload_n 3, 1), (1, .aload_n 0, 1), (2, .getfield 25, 3), (5, .invokestatic 50, 3), (8, .istore 4, 2), (10, .iload_n 3, 1), (11, .aload_n 0, 1), (12, .getfield 25, 3), (15, .invokestatic 54, 3), (18, .iconst 1, 1), (19, .iadd, 1), (20, .istore 5, 2), (22, .aload_n 0, 1), (23, .aload_n 0, 1), (24, .getfield 12, 3), (27, .iload_n 1, 1), (28, .iload 4, 2), (30, .invokevirtual 57, 3), (33, .aload_n 0, 1), (34, .aload_n 0, 1), (35, .getfield 18, 3), (38, .iload_n 2, 1), (39, .iload 4, 2), (41, .invokevirtual 57, 3), (44, .iadd, 1), (45, .istore 6, 2), (47, .aload_n 0, 1), (48, .getfield 21, 3), (51, .iload_n 1, 1), (52, .iload_n 2, 1), (53, .iload_n 3, 1), (54, .invokestatic 61, 3), (57, .iload 6, 2), (59, .iload 5, 2), (61, .if_icmp .lt 7, 3), (64, .iconst 1, 1), (65, .goto 4, 3), (68, .iconst 0, 1), (69, .invokestatic 65, 3), (72, .return_, 1)]
theorem tdX6_judge_t0_ok : gz_dec cX6_judge tdX6_judge_t0 = true := by decide +kernel
theorem dX6_judge_0 : decode cX6_judge 0 = .ok (.iload_n 3, 1) := gz_d tdX6_judge_t0_ok 0 rfl
theorem dX6_judge_1 : decode cX6_judge 1 = .ok (.aload_n 0, 1) := gz_d tdX6_judge_t0_ok 1 rfl
theorem dX6_judge_2 : decode cX6_judge 2 = .ok (.getfield 25, 3) := gz_d tdX6_judge_t0_ok 2 rfl
theorem dX6_judge_5 : decode cX6_judge 5 = .ok (.invokestatic 50, 3) := gz_d tdX6_judge_t0_ok 3 rfl
theorem dX6_judge_8 : decode cX6_judge 8 = .ok (.istore 4, 2) := gz_d tdX6_judge_t0_ok 4 rfl
theorem dX6_judge_10 : decode cX6_judge 10 = .ok (.iload_n 3, 1) := gz_d tdX6_judge_t0_ok 5 rfl
theorem dX6_judge_11 : decode cX6_judge 11 = .ok (.aload_n 0, 1) := gz_d tdX6_judge_t0_ok 6 rfl
theorem dX6_judge_12 : decode cX6_judge 12 = .ok (.getfield 25, 3) := gz_d tdX6_judge_t0_ok 7 rfl
theorem dX6_judge_15 : decode cX6_judge 15 = .ok (.invokestatic 54, 3) := gz_d tdX6_judge_t0_ok 8 rfl
theorem dX6_judge_18 : decode cX6_judge 18 = .ok (.iconst 1, 1) := gz_d tdX6_judge_t0_ok 9 rfl
theorem dX6_judge_19 : decode cX6_judge 19 = .ok (.iadd, 1) := gz_d tdX6_judge_t0_ok 10 rfl
theorem dX6_judge_20 : decode cX6_judge 20 = .ok (.istore 5, 2) := gz_d tdX6_judge_t0_ok 11 rfl
theorem dX6_judge_22 : decode cX6_judge 22 = .ok (.aload_n 0, 1) := gz_d tdX6_judge_t0_ok 12 rfl
theorem dX6_judge_23 : decode cX6_judge 23 = .ok (.aload_n 0, 1) := gz_d tdX6_judge_t0_ok 13 rfl
theorem dX6_judge_24 : decode cX6_judge 24 = .ok (.getfield 12, 3) := gz_d tdX6_judge_t0_ok 14 rfl
theorem dX6_judge_27 : decode cX6_judge 27 = .ok (.iload_n 1, 1) := gz_d tdX6_judge_t0_ok 15 rfl
theorem dX6_judge_28 : decode cX6_judge 28 = .ok (.iload 4, 2) := gz_d tdX6_judge_t0_ok 16 rfl
theorem dX6_judge_30 : decode cX6_judge 30 = .ok (.invokevirtual 57, 3) := gz_d tdX6_judge_t0_ok 17 rfl
theorem dX6_judge_33 : decode cX6_judge 33 = .ok (.aload_n 0, 1) := gz_d tdX6_judge_t0_ok 18 rfl
theorem dX6_judge_34 : decode cX6_judge 34 = .ok (.aload_n 0, 1) := gz_d tdX6_judge_t0_ok 19 rfl
theorem dX6_judge_35 : decode cX6_judge 35 = .ok (.getfield 18, 3) := gz_d tdX6_judge_t0_ok 20 rfl
theorem dX6_judge_38 : decode cX6_judge 38 = .ok (.iload_n 2, 1) := gz_d tdX6_judge_t0_ok 21 rfl
theorem dX6_judge_39 : decode cX6_judge 39 = .ok (.iload 4, 2) := gz_d tdX6_judge_t0_ok 22 rfl
theorem dX6_judge_41 : decode cX6_judge 41 = .ok (.invokevirtual 57, 3) := gz_d tdX6_judge_t0_ok 23 rfl
theorem dX6_judge_44 : decode cX6_judge 44 = .ok (.iadd, 1) := gz_d tdX6_judge_t0_ok 24 rfl
theorem dX6_judge_45 : decode cX6_judge 45 = .ok (.istore 6, 2) := gz_d tdX6_judge_t0_ok 25 rfl
theorem dX6_judge_47 : decode cX6_judge 47 = .ok (.aload_n 0, 1) := gz_d tdX6_judge_t0_ok 26 rfl
theorem dX6_judge_48 : decode cX6_judge 48 = .ok (.getfield 21, 3) := gz_d tdX6_judge_t0_ok 27 rfl
theorem dX6_judge_51 : decode cX6_judge 51 = .ok (.iload_n 1, 1) := gz_d tdX6_judge_t0_ok 28 rfl
theorem dX6_judge_52 : decode cX6_judge 52 = .ok (.iload_n 2, 1) := gz_d tdX6_judge_t0_ok 29 rfl
theorem dX6_judge_53 : decode cX6_judge 53 = .ok (.iload_n 3, 1) := gz_d tdX6_judge_t0_ok 30 rfl
theorem dX6_judge_54 : decode cX6_judge 54 = .ok (.invokestatic 61, 3) := gz_d tdX6_judge_t0_ok 31 rfl
theorem dX6_judge_57 : decode cX6_judge 57 = .ok (.iload 6, 2) := gz_d tdX6_judge_t0_ok 32 rfl
theorem dX6_judge_59 : decode cX6_judge 59 = .ok (.iload 5, 2) := gz_d tdX6_judge_t0_ok 33 rfl
theorem dX6_judge_61 : decode cX6_judge 61 = .ok (.if_icmp .lt 7, 3) := gz_d tdX6_judge_t0_ok 34 rfl
theorem dX6_judge_64 : decode cX6_judge 64 = .ok (.iconst 1, 1) := gz_d tdX6_judge_t0_ok 35 rfl
theorem dX6_judge_65 : decode cX6_judge 65 = .ok (.goto 4, 3) := gz_d tdX6_judge_t0_ok 36 rfl
theorem dX6_judge_68 : decode cX6_judge 68 = .ok (.iconst 0, 1) := gz_d tdX6_judge_t0_ok 37 rfl
theorem dX6_judge_69 : decode cX6_judge 69 = .ok (.invokestatic 65, 3) := gz_d tdX6_judge_t0_ok 38 rfl
theorem dX6_judge_72 : decode cX6_judge 72 = .ok (.return_, 1) := gz_d tdX6_judge_t0_ok 39 rfl
def tdX6_countsFor_t0 : List (Nat × Instr × Nat) := [(0, .aload_n 1, 1), (1, .iload_n 2, 1), (2, .iload_n 3, 1), (3, .invokevirtual 69, 3), (6, .istore 4, 2), (8, .aload_n 0, 1), (9, .getfield 29, 3), (12, .ifCond .eq 19, 3), (15, .iload_n 3, 1), (16, .ifCond .le 15, 3), (19, .iload 4, 2), (21, .aload_n 1, 1), (22, .iload_n 2, 1), (23, .iconst 0, 1), (24, .invokevirtual 69, 3), (27, .iadd, 1), (28, .goto 5, 3), (31, .iload 4, 2), (33, .ireturn, 1)]
theorem tdX6_countsFor_t0_ok : gz_dec cX6_countsFor tdX6_countsFor_t0 = true := by decide +kernel
theorem dX6_countsFor_0 : decode cX6_countsFor 0 = .ok (.aload_n 1, 1) := gz_d tdX6_countsFor_t0_ok 0 rfl
theorem dX6_countsFor_1 : decode cX6_countsFor 1 = .ok (.iload_n 2, 1) := gz_d tdX6_countsFor_t0_ok 1 rfl
theorem dX6_countsFor_2 : decode cX6_countsFor 2 = .ok (.iload_n 3, 1) := gz_d tdX6_countsFor_t0_ok 2 rfl
theorem dX6_countsFor_3 : decode cX6_countsFor 3 = .ok (.invokevirtual 69, 3) := gz_d tdX6_countsFor_t0_ok 3 rfl
theorem dX6_countsFor_6 : decode cX6_countsFor 6 = .ok (.istore 4, 2) := gz_d tdX6_countsFor_t0_ok 4 rfl
theorem dX6_countsFor_8 : decode cX6_countsFor 8 = .ok (.aload_n 0, 1) := gz_d tdX6_countsFor_t0_ok 5 rfl
theorem dX6_countsFor_9 : decode cX6_countsFor 9 = .ok (.getfield 29, 3) := gz_d tdX6_countsFor_t0_ok 6 rfl
theorem dX6_countsFor_12 : decode cX6_countsFor 12 = .ok (.ifCond .eq 19, 3) := gz_d tdX6_countsFor_t0_ok 7 rfl
theorem dX6_countsFor_15 : decode cX6_countsFor 15 = .ok (.iload_n 3, 1) := gz_d tdX6_countsFor_t0_ok 8 rfl
theorem dX6_countsFor_16 : decode cX6_countsFor 16 = .ok (.ifCond .le 15, 3) := gz_d tdX6_countsFor_t0_ok 9 rfl
theorem dX6_countsFor_19 : decode cX6_countsFor 19 = .ok (.iload 4, 2) := gz_d tdX6_countsFor_t0_ok 10 rfl
theorem dX6_countsFor_21 : decode cX6_countsFor 21 = .ok (.aload_n 1, 1) := gz_d tdX6_countsFor_t0_ok 11 rfl
theorem dX6_countsFor_22 : decode cX6_countsFor 22 = .ok (.iload_n 2, 1) := gz_d tdX6_countsFor_t0_ok 12 rfl
theorem dX6_countsFor_23 : decode cX6_countsFor 23 = .ok (.iconst 0, 1) := gz_d tdX6_countsFor_t0_ok 13 rfl
theorem dX6_countsFor_24 : decode cX6_countsFor 24 = .ok (.invokevirtual 69, 3) := gz_d tdX6_countsFor_t0_ok 14 rfl
theorem dX6_countsFor_27 : decode cX6_countsFor 27 = .ok (.iadd, 1) := gz_d tdX6_countsFor_t0_ok 15 rfl
theorem dX6_countsFor_28 : decode cX6_countsFor 28 = .ok (.goto 5, 3) := gz_d tdX6_countsFor_t0_ok 16 rfl
theorem dX6_countsFor_31 : decode cX6_countsFor 31 = .ok (.iload 4, 2) := gz_d tdX6_countsFor_t0_ok 17 rfl
theorem dX6_countsFor_33 : decode cX6_countsFor 33 = .ok (.ireturn, 1) := gz_d tdX6_countsFor_t0_ok 18 rfl
def tdX6_spotOf_t0 : List (Nat × Instr × Nat) := [(0, .iload_n 0, 1), (1, .iconst 4, 1), (2, .imul, 1), (3, .iload_n 1, 1), (4, .iadd, 1), (5, .bipush 8, 2), (7, .imul, 1), (8, .iload_n 2, 1), (9, .iadd, 1), (10, .ireturn, 1)]
theorem tdX6_spotOf_t0_ok : gz_dec cX6_spotOf tdX6_spotOf_t0 = true := by decide +kernel
theorem dX6_spotOf_0 : decode cX6_spotOf 0 = .ok (.iload_n 0, 1) := gz_d tdX6_spotOf_t0_ok 0 rfl
theorem dX6_spotOf_1 : decode cX6_spotOf 1 = .ok (.iconst 4, 1) := gz_d tdX6_spotOf_t0_ok 1 rfl
theorem dX6_spotOf_2 : decode cX6_spotOf 2 = .ok (.imul, 1) := gz_d tdX6_spotOf_t0_ok 2 rfl
theorem dX6_spotOf_3 : decode cX6_spotOf 3 = .ok (.iload_n 1, 1) := gz_d tdX6_spotOf_t0_ok 3 rfl
theorem dX6_spotOf_4 : decode cX6_spotOf 4 = .ok (.iadd, 1) := gz_d tdX6_spotOf_t0_ok 4 rfl
theorem dX6_spotOf_5 : decode cX6_spotOf 5 = .ok (.bipush 8, 2) := gz_d tdX6_spotOf_t0_ok 5 rfl
theorem dX6_spotOf_7 : decode cX6_spotOf 7 = .ok (.imul, 1) := gz_d tdX6_spotOf_t0_ok 6 rfl
theorem dX6_spotOf_8 : decode cX6_spotOf 8 = .ok (.iload_n 2, 1) := gz_d tdX6_spotOf_t0_ok 7 rfl
theorem dX6_spotOf_9 : decode cX6_spotOf 9 = .ok (.iadd, 1) := gz_d tdX6_spotOf_t0_ok 8 rfl
theorem dX6_spotOf_10 : decode cX6_spotOf 10 = .ok (.ireturn, 1) := gz_d tdX6_spotOf_t0_ok 9 rfl
def tdX6_cup_t0 : List (Nat × Instr × Nat) := [(0, .iload_n 1, 1), (1, .ifCond .ne 10, 3), (4, .aload_n 0, 1), (5, .getfield 12, 3), (8, .goto 7, 3), (11, .aload_n 0, 1), (12, .getfield 18, 3), (15, .areturn, 1)]
theorem tdX6_cup_t0_ok : gz_dec cX6_cup tdX6_cup_t0 = true := by decide +kernel
theorem dX6_cup_0 : decode cX6_cup 0 = .ok (.iload_n 1, 1) := gz_d tdX6_cup_t0_ok 0 rfl
theorem dX6_cup_1 : decode cX6_cup 1 = .ok (.ifCond .ne 10, 3) := gz_d tdX6_cup_t0_ok 1 rfl
theorem dX6_cup_4 : decode cX6_cup 4 = .ok (.aload_n 0, 1) := gz_d tdX6_cup_t0_ok 2 rfl
theorem dX6_cup_5 : decode cX6_cup 5 = .ok (.getfield 12, 3) := gz_d tdX6_cup_t0_ok 3 rfl
theorem dX6_cup_8 : decode cX6_cup 8 = .ok (.goto 7, 3) := gz_d tdX6_cup_t0_ok 4 rfl
theorem dX6_cup_11 : decode cX6_cup 11 = .ok (.aload_n 0, 1) := gz_d tdX6_cup_t0_ok 5 rfl
theorem dX6_cup_12 : decode cX6_cup 12 = .ok (.getfield 18, 3) := gz_d tdX6_cup_t0_ok 6 rfl
theorem dX6_cup_15 : decode cX6_cup 15 = .ok (.areturn, 1) := gz_d tdX6_cup_t0_ok 7 rfl
def tdX6_isTrue_t0 : List (Nat × Instr × Nat) := [(0, .aload_n 0, 1), (1, .getfield 21, 3), (4, .iload_n 1, 1), (5, .iload_n 2, 1), (6, .iload_n 3, 1), (7, .invokestatic 61, 3), (10, .invokestatic 72, 3), (13, .iconst 1, 1), (14, .if_icmp .ne 7, 3), (17, .iconst 1, 1), (18, .goto 4, 3), (21, .iconst 0, 1), (22, .ireturn, 1)]
theorem tdX6_isTrue_t0_ok : gz_dec cX6_isTrue tdX6_isTrue_t0 = true := by decide +kernel
theorem dX6_isTrue_0 : decode cX6_isTrue 0 = .ok (.aload_n 0, 1) := gz_d tdX6_isTrue_t0_ok 0 rfl
theorem dX6_isTrue_1 : decode cX6_isTrue 1 = .ok (.getfield 21, 3) := gz_d tdX6_isTrue_t0_ok 1 rfl
theorem dX6_isTrue_4 : decode cX6_isTrue 4 = .ok (.iload_n 1, 1) := gz_d tdX6_isTrue_t0_ok 2 rfl
theorem dX6_isTrue_5 : decode cX6_isTrue 5 = .ok (.iload_n 2, 1) := gz_d tdX6_isTrue_t0_ok 3 rfl
theorem dX6_isTrue_6 : decode cX6_isTrue 6 = .ok (.iload_n 3, 1) := gz_d tdX6_isTrue_t0_ok 4 rfl
theorem dX6_isTrue_7 : decode cX6_isTrue 7 = .ok (.invokestatic 61, 3) := gz_d tdX6_isTrue_t0_ok 5 rfl
theorem dX6_isTrue_10 : decode cX6_isTrue 10 = .ok (.invokestatic 72, 3) := gz_d tdX6_isTrue_t0_ok 6 rfl
theorem dX6_isTrue_13 : decode cX6_isTrue 13 = .ok (.iconst 1, 1) := gz_d tdX6_isTrue_t0_ok 7 rfl
theorem dX6_isTrue_14 : decode cX6_isTrue 14 = .ok (.if_icmp .ne 7, 3) := gz_d tdX6_isTrue_t0_ok 8 rfl
theorem dX6_isTrue_17 : decode cX6_isTrue 17 = .ok (.iconst 1, 1) := gz_d tdX6_isTrue_t0_ok 9 rfl
theorem dX6_isTrue_18 : decode cX6_isTrue 18 = .ok (.goto 4, 3) := gz_d tdX6_isTrue_t0_ok 10 rfl
theorem dX6_isTrue_21 : decode cX6_isTrue 21 = .ok (.iconst 0, 1) := gz_d tdX6_isTrue_t0_ok 11 rfl
theorem dX6_isTrue_22 : decode cX6_isTrue 22 = .ok (.ireturn, 1) := gz_d tdX6_isTrue_t0_ok 12 rfl
def tdX6_isTrueFor_t0 : List (Nat × Instr × Nat) := [(0, .iload_n 1, 1), (1, .ifCond .ne 14, 3), (4, .aload_n 0, 1), (5, .iload_n 2, 1), (6, .iload_n 3, 1), (7, .iload 4, 2), (9, .invokevirtual 76, 3), (12, .goto 11, 3), (15, .aload_n 0, 1), (16, .iload_n 3, 1), (17, .iload_n 2, 1), (18, .iload 4, 2), (20, .invokevirtual 76, 3), (23, .ireturn, 1)]
theorem tdX6_isTrueFor_t0_ok : gz_dec cX6_isTrueFor tdX6_isTrueFor_t0 = true := by decide +kernel
theorem dX6_isTrueFor_0 : decode cX6_isTrueFor 0 = .ok (.iload_n 1, 1) := gz_d tdX6_isTrueFor_t0_ok 0 rfl
theorem dX6_isTrueFor_1 : decode cX6_isTrueFor 1 = .ok (.ifCond .ne 14, 3) := gz_d tdX6_isTrueFor_t0_ok 1 rfl
theorem dX6_isTrueFor_4 : decode cX6_isTrueFor 4 = .ok (.aload_n 0, 1) := gz_d tdX6_isTrueFor_t0_ok 2 rfl
theorem dX6_isTrueFor_5 : decode cX6_isTrueFor 5 = .ok (.iload_n 2, 1) := gz_d tdX6_isTrueFor_t0_ok 3 rfl
theorem dX6_isTrueFor_6 : decode cX6_isTrueFor 6 = .ok (.iload_n 3, 1) := gz_d tdX6_isTrueFor_t0_ok 4 rfl
theorem dX6_isTrueFor_7 : decode cX6_isTrueFor 7 = .ok (.iload 4, 2) := gz_d tdX6_isTrueFor_t0_ok 5 rfl
theorem dX6_isTrueFor_9 : decode cX6_isTrueFor 9 = .ok (.invokevirtual 76, 3) := gz_d tdX6_isTrueFor_t0_ok 6 rfl
theorem dX6_isTrueFor_12 : decode cX6_isTrueFor 12 = .ok (.goto 11, 3) := gz_d tdX6_isTrueFor_t0_ok 7 rfl
theorem dX6_isTrueFor_15 : decode cX6_isTrueFor 15 = .ok (.aload_n 0, 1) := gz_d tdX6_isTrueFor_t0_ok 8 rfl
theorem dX6_isTrueFor_16 : decode cX6_isTrueFor 16 = .ok (.iload_n 3, 1) := gz_d tdX6_isTrueFor_t0_ok 9 rfl
theorem dX6_isTrueFor_17 : decode cX6_isTrueFor 17 = .ok (.iload_n 2, 1) := gz_d tdX6_isTrueFor_t0_ok 10 rfl
theorem dX6_isTrueFor_18 : decode cX6_isTrueFor 18 = .ok (.iload 4, 2) := gz_d tdX6_isTrueFor_t0_ok 11 rfl
theorem dX6_isTrueFor_20 : decode cX6_isTrueFor 20 = .ok (.invokevirtual 76, 3) := gz_d tdX6_isTrueFor_t0_ok 12 rfl
theorem dX6_isTrueFor_23 : decode cX6_isTrueFor 23 = .ok (.ireturn, 1) := gz_d tdX6_isTrueFor_t0_ok 13 rfl
def tdX6_waysToHold_t0 : List (Nat × Instr × Nat) := [(0, .aload_n 0, 1), (1, .iconst 1, 1), (2, .iload_n 1, 1), (3, .isub, 1), (4, .invokevirtual 80, 3), (7, .astore 4, 2), (9, .iconst 0, 1), (10, .istore 5, 2), (12, .iconst 0, 1), (13, .istore 6, 2), (15, .iload 6, 2), (17, .aload 4, 2), (19, .getfield 43, 3), (22, .if_icmp .ge 33, 3), (25, .aload_n 0, 1), (26, .iload_n 1, 1), (27, .iload_n 2, 1), (28, .iload 6, 2), (30, .iload_n 3, 1), (31, .invokevirtual 84, 3), (34, .ifCond .eq 15, 3), (37, .iload 5, 2), (39, .aload 4, 2), (41, .iload 6, 2), (43, .invokevirtual 88, 3), (46, .iadd, 1), (47, .istore 5, 2), (49, .iinc 6 1, 3), (52, .goto (-37), 3), (55, .iload 5, 2), (57, .ireturn, 1)]
theorem tdX6_waysToHold_t0_ok : gz_dec cX6_waysToHold tdX6_waysToHold_t0 = true := by decide +kernel
theorem dX6_waysToHold_0 : decode cX6_waysToHold 0 = .ok (.aload_n 0, 1) := gz_d tdX6_waysToHold_t0_ok 0 rfl
theorem dX6_waysToHold_1 : decode cX6_waysToHold 1 = .ok (.iconst 1, 1) := gz_d tdX6_waysToHold_t0_ok 1 rfl
theorem dX6_waysToHold_2 : decode cX6_waysToHold 2 = .ok (.iload_n 1, 1) := gz_d tdX6_waysToHold_t0_ok 2 rfl
theorem dX6_waysToHold_3 : decode cX6_waysToHold 3 = .ok (.isub, 1) := gz_d tdX6_waysToHold_t0_ok 3 rfl
theorem dX6_waysToHold_4 : decode cX6_waysToHold 4 = .ok (.invokevirtual 80, 3) := gz_d tdX6_waysToHold_t0_ok 4 rfl
theorem dX6_waysToHold_7 : decode cX6_waysToHold 7 = .ok (.astore 4, 2) := gz_d tdX6_waysToHold_t0_ok 5 rfl
theorem dX6_waysToHold_9 : decode cX6_waysToHold 9 = .ok (.iconst 0, 1) := gz_d tdX6_waysToHold_t0_ok 6 rfl
theorem dX6_waysToHold_10 : decode cX6_waysToHold 10 = .ok (.istore 5, 2) := gz_d tdX6_waysToHold_t0_ok 7 rfl
theorem dX6_waysToHold_12 : decode cX6_waysToHold 12 = .ok (.iconst 0, 1) := gz_d tdX6_waysToHold_t0_ok 8 rfl
theorem dX6_waysToHold_13 : decode cX6_waysToHold 13 = .ok (.istore 6, 2) := gz_d tdX6_waysToHold_t0_ok 9 rfl
theorem dX6_waysToHold_15 : decode cX6_waysToHold 15 = .ok (.iload 6, 2) := gz_d tdX6_waysToHold_t0_ok 10 rfl
theorem dX6_waysToHold_17 : decode cX6_waysToHold 17 = .ok (.aload 4, 2) := gz_d tdX6_waysToHold_t0_ok 11 rfl
theorem dX6_waysToHold_19 : decode cX6_waysToHold 19 = .ok (.getfield 43, 3) := gz_d tdX6_waysToHold_t0_ok 12 rfl
theorem dX6_waysToHold_22 : decode cX6_waysToHold 22 = .ok (.if_icmp .ge 33, 3) := gz_d tdX6_waysToHold_t0_ok 13 rfl
theorem dX6_waysToHold_25 : decode cX6_waysToHold 25 = .ok (.aload_n 0, 1) := gz_d tdX6_waysToHold_t0_ok 14 rfl
theorem dX6_waysToHold_26 : decode cX6_waysToHold 26 = .ok (.iload_n 1, 1) := gz_d tdX6_waysToHold_t0_ok 15 rfl
theorem dX6_waysToHold_27 : decode cX6_waysToHold 27 = .ok (.iload_n 2, 1) := gz_d tdX6_waysToHold_t0_ok 16 rfl
theorem dX6_waysToHold_28 : decode cX6_waysToHold 28 = .ok (.iload 6, 2) := gz_d tdX6_waysToHold_t0_ok 17 rfl
theorem dX6_waysToHold_30 : decode cX6_waysToHold 30 = .ok (.iload_n 3, 1) := gz_d tdX6_waysToHold_t0_ok 18 rfl
theorem dX6_waysToHold_31 : decode cX6_waysToHold 31 = .ok (.invokevirtual 84, 3) := gz_d tdX6_waysToHold_t0_ok 19 rfl
theorem dX6_waysToHold_34 : decode cX6_waysToHold 34 = .ok (.ifCond .eq 15, 3) := gz_d tdX6_waysToHold_t0_ok 20 rfl
theorem dX6_waysToHold_37 : decode cX6_waysToHold 37 = .ok (.iload 5, 2) := gz_d tdX6_waysToHold_t0_ok 21 rfl
theorem dX6_waysToHold_39 : decode cX6_waysToHold 39 = .ok (.aload 4, 2) := gz_d tdX6_waysToHold_t0_ok 22 rfl
theorem dX6_waysToHold_41 : decode cX6_waysToHold 41 = .ok (.iload 6, 2) := gz_d tdX6_waysToHold_t0_ok 23 rfl
theorem dX6_waysToHold_43 : decode cX6_waysToHold 43 = .ok (.invokevirtual 88, 3) := gz_d tdX6_waysToHold_t0_ok 24 rfl
theorem dX6_waysToHold_46 : decode cX6_waysToHold 46 = .ok (.iadd, 1) := gz_d tdX6_waysToHold_t0_ok 25 rfl
theorem dX6_waysToHold_47 : decode cX6_waysToHold 47 = .ok (.istore 5, 2) := gz_d tdX6_waysToHold_t0_ok 26 rfl
theorem dX6_waysToHold_49 : decode cX6_waysToHold 49 = .ok (.iinc 6 1, 3) := gz_d tdX6_waysToHold_t0_ok 27 rfl
theorem dX6_waysToHold_52 : decode cX6_waysToHold 52 = .ok (.goto (-37), 3) := gz_d tdX6_waysToHold_t0_ok 28 rfl
theorem dX6_waysToHold_55 : decode cX6_waysToHold 55 = .ok (.iload 5, 2) := gz_d tdX6_waysToHold_t0_ok 29 rfl
theorem dX6_waysToHold_57 : decode cX6_waysToHold 57 = .ok (.ireturn, 1) := gz_d tdX6_waysToHold_t0_ok 30 rfl
def tdX6_meanOf_t0 : List (Nat × Instr × Nat) := [(0, .aload_n 0, 1), (1, .getfield 12, 3), (4, .invokevirtual 92, 3), (7, .aload_n 0, 1), (8, .getfield 18, 3), (11, .invokevirtual 92, 3), (14, .imul, 1), (15, .i2d, 1), (16, .dstore_n 3, 1), (17, .dload_n 3, 1), (18, .dconst 0, 1), (19, .dcmp .l, 1), (20, .ifCond .le 9, 3), (23, .dload_n 1, 1), (24, .dload_n 3, 1), (25, .ddiv, 1), (26, .goto 4, 3), (29, .dconst 0, 1), (30, .dreturn, 1)]
theorem tdX6_meanOf_t0_ok : gz_dec cX6_meanOf tdX6_meanOf_t0 = true := by decide +kernel
theorem dX6_meanOf_0 : decode cX6_meanOf 0 = .ok (.aload_n 0, 1) := gz_d tdX6_meanOf_t0_ok 0 rfl
theorem dX6_meanOf_1 : decode cX6_meanOf 1 = .ok (.getfield 12, 3) := gz_d tdX6_meanOf_t0_ok 1 rfl
theorem dX6_meanOf_4 : decode cX6_meanOf 4 = .ok (.invokevirtual 92, 3) := gz_d tdX6_meanOf_t0_ok 2 rfl
theorem dX6_meanOf_7 : decode cX6_meanOf 7 = .ok (.aload_n 0, 1) := gz_d tdX6_meanOf_t0_ok 3 rfl
theorem dX6_meanOf_8 : decode cX6_meanOf 8 = .ok (.getfield 18, 3) := gz_d tdX6_meanOf_t0_ok 4 rfl
theorem dX6_meanOf_11 : decode cX6_meanOf 11 = .ok (.invokevirtual 92, 3) := gz_d tdX6_meanOf_t0_ok 5 rfl
theorem dX6_meanOf_14 : decode cX6_meanOf 14 = .ok (.imul, 1) := gz_d tdX6_meanOf_t0_ok 6 rfl
theorem dX6_meanOf_15 : decode cX6_meanOf 15 = .ok (.i2d, 1) := gz_d tdX6_meanOf_t0_ok 7 rfl
theorem dX6_meanOf_16 : decode cX6_meanOf 16 = .ok (.dstore_n 3, 1) := gz_d tdX6_meanOf_t0_ok 8 rfl
theorem dX6_meanOf_17 : decode cX6_meanOf 17 = .ok (.dload_n 3, 1) := gz_d tdX6_meanOf_t0_ok 9 rfl
theorem dX6_meanOf_18 : decode cX6_meanOf 18 = .ok (.dconst 0, 1) := gz_d tdX6_meanOf_t0_ok 10 rfl
theorem dX6_meanOf_19 : decode cX6_meanOf 19 = .ok (.dcmp .l, 1) := gz_d tdX6_meanOf_t0_ok 11 rfl
theorem dX6_meanOf_20 : decode cX6_meanOf 20 = .ok (.ifCond .le 9, 3) := gz_d tdX6_meanOf_t0_ok 12 rfl
theorem dX6_meanOf_23 : decode cX6_meanOf 23 = .ok (.dload_n 1, 1) := gz_d tdX6_meanOf_t0_ok 13 rfl
theorem dX6_meanOf_24 : decode cX6_meanOf 24 = .ok (.dload_n 3, 1) := gz_d tdX6_meanOf_t0_ok 14 rfl
theorem dX6_meanOf_25 : decode cX6_meanOf 25 = .ok (.ddiv, 1) := gz_d tdX6_meanOf_t0_ok 15 rfl
theorem dX6_meanOf_26 : decode cX6_meanOf 26 = .ok (.goto 4, 3) := gz_d tdX6_meanOf_t0_ok 16 rfl
theorem dX6_meanOf_29 : decode cX6_meanOf 29 = .ok (.dconst 0, 1) := gz_d tdX6_meanOf_t0_ok 17 rfl
theorem dX6_meanOf_30 : decode cX6_meanOf 30 = .ok (.dreturn, 1) := gz_d tdX6_meanOf_t0_ok 18 rfl
def tdX7_init_t0 : List (Nat × Instr × Nat) := [(0, .aload_n 0, 1), (1, .invokespecial 3, 3), (4, .aload_n 0, 1), (5, .new 9, 3), (8, .dup, 1), (9, .invokespecial 11, 3), (12, .putfield 12, 3), (15, .aload_n 0, 1), (16, .new 16, 3), (19, .dup, 1), (20, .invokespecial 18, 3), (23, .putfield 19, 3), (26, .aload_n 0, 1), (27, .new 23, 3), (30, .dup, 1), (31, .aload_n 0, 1), (32, .getfield 12, 3), (35, .invokespecial 25, 3), (38, .putfield 28, 3), (41, .aload_n 0, 1), (42, .new 32, 3), (45, .dup, 1), (46, .aload_n 0, 1), (47, .getfield 12, 3), (50, .invokespecial 34, 3), (53, .putfield 35, 3), (56, .aload_n 0, 1), (57, .new 39, 3), (60, .dup, 1), (61, .aload_n 0, 1), (62, .getfield 12, 3), (65, .invokespecial 41, 3), (68, .putfield 42, 3), (71, .aload_n 0, 1), (72, .getfield 12, 3), (75, .iconst 1, 1), (76, .iconst 1, 1), (77, .iconst 2, 1), (78, .iconst 0, 1), (79, .invokevirtual 46, 3), (82, .return_, 1)]
theorem tdX7_init_t0_ok : gz_dec cX7_init tdX7_init_t0 = true := by decide +kernel
theorem dX7_init_0 : decode cX7_init 0 = .ok (.aload_n 0, 1) := gz_d tdX7_init_t0_ok 0 rfl
theorem dX7_init_1 : decode cX7_init 1 = .ok (.invokespecial 3, 3) := gz_d tdX7_init_t0_ok 1 rfl
theorem dX7_init_4 : decode cX7_init 4 = .ok (.aload_n 0, 1) := gz_d tdX7_init_t0_ok 2 rfl
theorem dX7_init_5 : decode cX7_init 5 = .ok (.new 9, 3) := gz_d tdX7_init_t0_ok 3 rfl
theorem dX7_init_8 : decode cX7_init 8 = .ok (.dup, 1) := gz_d tdX7_init_t0_ok 4 rfl
theorem dX7_init_9 : decode cX7_init 9 = .ok (.invokespecial 11, 3) := gz_d tdX7_init_t0_ok 5 rfl
theorem dX7_init_12 : decode cX7_init 12 = .ok (.putfield 12, 3) := gz_d tdX7_init_t0_ok 6 rfl
theorem dX7_init_15 : decode cX7_init 15 = .ok (.aload_n 0, 1) := gz_d tdX7_init_t0_ok 7 rfl
theorem dX7_init_16 : decode cX7_init 16 = .ok (.new 16, 3) := gz_d tdX7_init_t0_ok 8 rfl
theorem dX7_init_19 : decode cX7_init 19 = .ok (.dup, 1) := gz_d tdX7_init_t0_ok 9 rfl
theorem dX7_init_20 : decode cX7_init 20 = .ok (.invokespecial 18, 3) := gz_d tdX7_init_t0_ok 10 rfl
theorem dX7_init_23 : decode cX7_init 23 = .ok (.putfield 19, 3) := gz_d tdX7_init_t0_ok 11 rfl
theorem dX7_init_26 : decode cX7_init 26 = .ok (.aload_n 0, 1) := gz_d tdX7_init_t0_ok 12 rfl
theorem dX7_init_27 : decode cX7_init 27 = .ok (.new 23, 3) := gz_d tdX7_init_t0_ok 13 rfl
theorem dX7_init_30 : decode cX7_init 30 = .ok (.dup, 1) := gz_d tdX7_init_t0_ok 14 rfl
theorem dX7_init_31 : decode cX7_init 31 = .ok (.aload_n 0, 1) := gz_d tdX7_init_t0_ok 15 rfl
theorem dX7_init_32 : decode cX7_init 32 = .ok (.getfield 12, 3) := gz_d tdX7_init_t0_ok 16 rfl
theorem dX7_init_35 : decode cX7_init 35 = .ok (.invokespecial 25, 3) := gz_d tdX7_init_t0_ok 17 rfl
theorem dX7_init_38 : decode cX7_init 38 = .ok (.putfield 28, 3) := gz_d tdX7_init_t0_ok 18 rfl
theorem dX7_init_41 : decode cX7_init 41 = .ok (.aload_n 0, 1) := gz_d tdX7_init_t0_ok 19 rfl
theorem dX7_init_42 : decode cX7_init 42 = .ok (.new 32, 3) := gz_d tdX7_init_t0_ok 20 rfl
theorem dX7_init_45 : decode cX7_init 45 = .ok (.dup, 1) := gz_d tdX7_init_t0_ok 21 rfl
theorem dX7_init_46 : decode cX7_init 46 = .ok (.aload_n 0, 1) := gz_d tdX7_init_t0_ok 22 rfl
theorem dX7_init_47 : decode cX7_init 47 = .ok (.getfield 12, 3) := gz_d tdX7_init_t0_ok 23 rfl
theorem dX7_init_50 : decode cX7_init 50 = .ok (.invokespecial 34, 3) := gz_d tdX7_init_t0_ok 24 rfl
theorem dX7_init_53 : decode cX7_init 53 = .ok (.putfield 35, 3) := gz_d tdX7_init_t0_ok 25 rfl
theorem dX7_init_56 : decode cX7_init 56 = .ok (.aload_n 0, 1) := gz_d tdX7_init_t0_ok 26 rfl
theorem dX7_init_57 : decode cX7_init 57 = .ok (.new 39, 3) := gz_d tdX7_init_t0_ok 27 rfl
theorem dX7_init_60 : decode cX7_init 60 = .ok (.dup, 1) := gz_d tdX7_init_t0_ok 28 rfl
theorem dX7_init_61 : decode cX7_init 61 = .ok (.aload_n 0, 1) := gz_d tdX7_init_t0_ok 29 rfl
theorem dX7_init_62 : decode cX7_init 62 = .ok (.getfield 12, 3) := gz_d tdX7_init_t0_ok 30 rfl
theorem dX7_init_65 : decode cX7_init 65 = .ok (.invokespecial 41, 3) := gz_d tdX7_init_t0_ok 31 rfl
theorem dX7_init_68 : decode cX7_init 68 = .ok (.putfield 42, 3) := gz_d tdX7_init_t0_ok 32 rfl
theorem dX7_init_71 : decode cX7_init 71 = .ok (.aload_n 0, 1) := gz_d tdX7_init_t0_ok 33 rfl
theorem dX7_init_72 : decode cX7_init 72 = .ok (.getfield 12, 3) := gz_d tdX7_init_t0_ok 34 rfl
theorem dX7_init_75 : decode cX7_init 75 = .ok (.iconst 1, 1) := gz_d tdX7_init_t0_ok 35 rfl
theorem dX7_init_76 : decode cX7_init 76 = .ok (.iconst 1, 1) := gz_d tdX7_init_t0_ok 36 rfl
theorem dX7_init_77 : decode cX7_init 77 = .ok (.iconst 2, 1) := gz_d tdX7_init_t0_ok 37 rfl
theorem dX7_init_78 : decode cX7_init 78 = .ok (.iconst 0, 1) := gz_d tdX7_init_t0_ok 38 rfl
theorem dX7_init_79 : decode cX7_init 79 = .ok (.invokevirtual 46, 3) := gz_d tdX7_init_t0_ok 39 rfl
theorem dX7_init_82 : decode cX7_init 82 = .ok (.return_, 1) := gz_d tdX7_init_t0_ok 40 rfl
def tdX7_cups_t0 : List (Nat × Instr × Nat) := [(0, .iload_n 1, 1), (1, .iconst 1, 1), (2, .iconst 3, 1), (3, .invokestatic 50, 3), (6, .ifCond .eq 12, 3), (9, .iload_n 2, 1), (10, .iconst 1, 1), (11, .iconst 3, 1), (12, .invokestatic 50, 3), (15, .ifCond .ne 6, 3), (18, .bipush (-2), 2), (20, .ireturn, 1), (21, .iload_n 3, 1), (22, .iconst 2, 1), (23, .iconst 4, 1), (24, .invokestatic 50, 3), (27, .ifCond .eq 13, 3), (30, .iload_n 1, 1), (31, .iload_n 2, 1), (32, .iadd, 1), (33, .iload_n 3, 1), (34, .imul, 1), (35, .bipush 8, 2), (37, .if_icmp .le 6, 3), (40, .bipush (-2), 2), (42, .ireturn, 1), (43, .aload_n 0, 1), (44, .getfield 12, 3), (47, .iload_n 1, 1), (48, .iload_n 2, 1), (49, .iload_n 3, 1), (50, .iload 4, 2), (52, .invokevirtual 46, 3), (55, .aload_n 0, 1), (56, .getfield 19, 3), (59, .invokevirtual 54, 3), (62, .aload_n 0, 1), (63, .getfield 42, 3), (66, .invokevirtual 57, 3), (69, .aload_n 0, 1), (70, .getfield 12, 3), (73, .getfield 60, 3), (76, .ireturn, 1)]
theorem tdX7_cups_t0_ok : gz_dec cX7_cups tdX7_cups_t0 = true := by decide +kernel
theorem dX7_cups_0 : decode cX7_cups 0 = .ok (.iload_n 1, 1) := gz_d tdX7_cups_t0_ok 0 rfl
theorem dX7_cups_1 : decode cX7_cups 1 = .ok (.iconst 1, 1) := gz_d tdX7_cups_t0_ok 1 rfl
theorem dX7_cups_2 : decode cX7_cups 2 = .ok (.iconst 3, 1) := gz_d tdX7_cups_t0_ok 2 rfl
theorem dX7_cups_3 : decode cX7_cups 3 = .ok (.invokestatic 50, 3) := gz_d tdX7_cups_t0_ok 3 rfl
theorem dX7_cups_6 : decode cX7_cups 6 = .ok (.ifCond .eq 12, 3) := gz_d tdX7_cups_t0_ok 4 rfl
theorem dX7_cups_9 : decode cX7_cups 9 = .ok (.iload_n 2, 1) := gz_d tdX7_cups_t0_ok 5 rfl
theorem dX7_cups_10 : decode cX7_cups 10 = .ok (.iconst 1, 1) := gz_d tdX7_cups_t0_ok 6 rfl
theorem dX7_cups_11 : decode cX7_cups 11 = .ok (.iconst 3, 1) := gz_d tdX7_cups_t0_ok 7 rfl
theorem dX7_cups_12 : decode cX7_cups 12 = .ok (.invokestatic 50, 3) := gz_d tdX7_cups_t0_ok 8 rfl
theorem dX7_cups_15 : decode cX7_cups 15 = .ok (.ifCond .ne 6, 3) := gz_d tdX7_cups_t0_ok 9 rfl
theorem dX7_cups_18 : decode cX7_cups 18 = .ok (.bipush (-2), 2) := gz_d tdX7_cups_t0_ok 10 rfl
theorem dX7_cups_20 : decode cX7_cups 20 = .ok (.ireturn, 1) := gz_d tdX7_cups_t0_ok 11 rfl
theorem dX7_cups_21 : decode cX7_cups 21 = .ok (.iload_n 3, 1) := gz_d tdX7_cups_t0_ok 12 rfl
theorem dX7_cups_22 : decode cX7_cups 22 = .ok (.iconst 2, 1) := gz_d tdX7_cups_t0_ok 13 rfl
theorem dX7_cups_23 : decode cX7_cups 23 = .ok (.iconst 4, 1) := gz_d tdX7_cups_t0_ok 14 rfl
theorem dX7_cups_24 : decode cX7_cups 24 = .ok (.invokestatic 50, 3) := gz_d tdX7_cups_t0_ok 15 rfl
theorem dX7_cups_27 : decode cX7_cups 27 = .ok (.ifCond .eq 13, 3) := gz_d tdX7_cups_t0_ok 16 rfl
theorem dX7_cups_30 : decode cX7_cups 30 = .ok (.iload_n 1, 1) := gz_d tdX7_cups_t0_ok 17 rfl
theorem dX7_cups_31 : decode cX7_cups 31 = .ok (.iload_n 2, 1) := gz_d tdX7_cups_t0_ok 18 rfl
theorem dX7_cups_32 : decode cX7_cups 32 = .ok (.iadd, 1) := gz_d tdX7_cups_t0_ok 19 rfl
theorem dX7_cups_33 : decode cX7_cups 33 = .ok (.iload_n 3, 1) := gz_d tdX7_cups_t0_ok 20 rfl
theorem dX7_cups_34 : decode cX7_cups 34 = .ok (.imul, 1) := gz_d tdX7_cups_t0_ok 21 rfl
theorem dX7_cups_35 : decode cX7_cups 35 = .ok (.bipush 8, 2) := gz_d tdX7_cups_t0_ok 22 rfl
theorem dX7_cups_37 : decode cX7_cups 37 = .ok (.if_icmp .le 6, 3) := gz_d tdX7_cups_t0_ok 23 rfl
theorem dX7_cups_40 : decode cX7_cups 40 = .ok (.bipush (-2), 2) := gz_d tdX7_cups_t0_ok 24 rfl
theorem dX7_cups_42 : decode cX7_cups 42 = .ok (.ireturn, 1) := gz_d tdX7_cups_t0_ok 25 rfl
theorem dX7_cups_43 : decode cX7_cups 43 = .ok (.aload_n 0, 1) := gz_d tdX7_cups_t0_ok 26 rfl
theorem dX7_cups_44 : decode cX7_cups 44 = .ok (.getfield 12, 3) := gz_d tdX7_cups_t0_ok 27 rfl
theorem dX7_cups_47 : decode cX7_cups 47 = .ok (.iload_n 1, 1) := gz_d tdX7_cups_t0_ok 28 rfl
theorem dX7_cups_48 : decode cX7_cups 48 = .ok (.iload_n 2, 1) := gz_d tdX7_cups_t0_ok 29 rfl
theorem dX7_cups_49 : decode cX7_cups 49 = .ok (.iload_n 3, 1) := gz_d tdX7_cups_t0_ok 30 rfl
theorem dX7_cups_50 : decode cX7_cups 50 = .ok (.iload 4, 2) := gz_d tdX7_cups_t0_ok 31 rfl
theorem dX7_cups_52 : decode cX7_cups 52 = .ok (.invokevirtual 46, 3) := gz_d tdX7_cups_t0_ok 32 rfl
theorem dX7_cups_55 : decode cX7_cups 55 = .ok (.aload_n 0, 1) := gz_d tdX7_cups_t0_ok 33 rfl
theorem dX7_cups_56 : decode cX7_cups 56 = .ok (.getfield 19, 3) := gz_d tdX7_cups_t0_ok 34 rfl
theorem dX7_cups_59 : decode cX7_cups 59 = .ok (.invokevirtual 54, 3) := gz_d tdX7_cups_t0_ok 35 rfl
theorem dX7_cups_62 : decode cX7_cups 62 = .ok (.aload_n 0, 1) := gz_d tdX7_cups_t0_ok 36 rfl
theorem dX7_cups_63 : decode cX7_cups 63 = .ok (.getfield 42, 3) := gz_d tdX7_cups_t0_ok 37 rfl
theorem dX7_cups_66 : decode cX7_cups 66 = .ok (.invokevirtual 57, 3) := gz_d tdX7_cups_t0_ok 38 rfl
theorem dX7_cups_69 : decode cX7_cups 69 = .ok (.aload_n 0, 1) := gz_d tdX7_cups_t0_ok 39 rfl
theorem dX7_cups_70 : decode cX7_cups 70 = .ok (.getfield 12, 3) := gz_d tdX7_cups_t0_ok 40 rfl
theorem dX7_cups_73 : decode cX7_cups 73 = .ok (.getfield 60, 3) := gz_d tdX7_cups_t0_ok 41 rfl
theorem dX7_cups_76 : decode cX7_cups 76 = .ok (.ireturn, 1) := gz_d tdX7_cups_t0_ok 42 rfl
def tdX7_hands_t0 : List (Nat × Instr × Nat) := [(0, .iload_n 1, 1), (1, .invokestatic 64, 3), (4, .ifCond .eq 17, 3), (7, .aload_n 0, 1), (8, .getfield 12, 3), (11, .iload_n 1, 1), (12, .invokevirtual 68, 3), (15, .getfield 72, 3), (18, .goto 5, 3), (21, .bipush (-2), 2), (23, .ireturn, 1)]
theorem tdX7_hands_t0_ok : gz_dec cX7_hands tdX7_hands_t0 = true := by decide +kernel
theorem dX7_hands_0 : decode cX7_hands 0 = .ok (.iload_n 1, 1) := gz_d tdX7_hands_t0_ok 0 rfl
theorem dX7_hands_1 : decode cX7_hands 1 = .ok (.invokestatic 64, 3) := gz_d tdX7_hands_t0_ok 1 rfl
theorem dX7_hands_4 : decode cX7_hands 4 = .ok (.ifCond .eq 17, 3) := gz_d tdX7_hands_t0_ok 2 rfl
theorem dX7_hands_7 : decode cX7_hands 7 = .ok (.aload_n 0, 1) := gz_d tdX7_hands_t0_ok 3 rfl
theorem dX7_hands_8 : decode cX7_hands 8 = .ok (.getfield 12, 3) := gz_d tdX7_hands_t0_ok 4 rfl
theorem dX7_hands_11 : decode cX7_hands 11 = .ok (.iload_n 1, 1) := gz_d tdX7_hands_t0_ok 5 rfl
theorem dX7_hands_12 : decode cX7_hands 12 = .ok (.invokevirtual 68, 3) := gz_d tdX7_hands_t0_ok 6 rfl
theorem dX7_hands_15 : decode cX7_hands 15 = .ok (.getfield 72, 3) := gz_d tdX7_hands_t0_ok 7 rfl
theorem dX7_hands_18 : decode cX7_hands 18 = .ok (.goto 5, 3) := gz_d tdX7_hands_t0_ok 8 rfl
theorem dX7_hands_21 : decode cX7_hands 21 = .ok (.bipush (-2), 2) := gz_d tdX7_hands_t0_ok 9 rfl
theorem dX7_hands_23 : decode cX7_hands 23 = .ok (.ireturn, 1) := gz_d tdX7_hands_t0_ok 10 rfl
def tdX7_hand_t0 : List (Nat × Instr × Nat) := [(0, .aload_n 0, 1), (1, .iload_n 1, 1), (2, .iload_n 2, 1), (3, .invokevirtual 77, 3), (6, .ifCond .eq 20, 3), (9, .iload_n 3, 1), (10, .iconst 0, 1), (11, .aload_n 0, 1), (12, .getfield 12, 3), (15, .getfield 81, 3), (18, .iconst 1, 1), (19, .isub, 1), (20, .invokestatic 50, 3), (23, .ifCond .ne 6, 3), (26, .bipush (-100), 2), (28, .ireturn, 1), (29, .aload_n 0, 1), (30, .getfield 12, 3), (33, .iload_n 1, 1), (34, .invokevirtual 68, 3), (37, .iload_n 2, 1), (38, .iload_n 3, 1), (39, .invokevirtual 84, 3), (42, .ireturn, 1)]
theorem tdX7_hand_t0_ok : gz_dec cX7_hand tdX7_hand_t0 = true := by decide +kernel
theorem dX7_hand_0 : decode cX7_hand 0 = .ok (.aload_n 0, 1) := gz_d tdX7_hand_t0_ok 0 rfl
theorem dX7_hand_1 : decode cX7_hand 1 = .ok (.iload_n 1, 1) := gz_d tdX7_hand_t0_ok 1 rfl
theorem dX7_hand_2 : decode cX7_hand 2 = .ok (.iload_n 2, 1) := gz_d tdX7_hand_t0_ok 2 rfl
theorem dX7_hand_3 : decode cX7_hand 3 = .ok (.invokevirtual 77, 3) := gz_d tdX7_hand_t0_ok 3 rfl
theorem dX7_hand_6 : decode cX7_hand 6 = .ok (.ifCond .eq 20, 3) := gz_d tdX7_hand_t0_ok 4 rfl
theorem dX7_hand_9 : decode cX7_hand 9 = .ok (.iload_n 3, 1) := gz_d tdX7_hand_t0_ok 5 rfl
theorem dX7_hand_10 : decode cX7_hand 10 = .ok (.iconst 0, 1) := gz_d tdX7_hand_t0_ok 6 rfl
theorem dX7_hand_11 : decode cX7_hand 11 = .ok (.aload_n 0, 1) := gz_d tdX7_hand_t0_ok 7 rfl
theorem dX7_hand_12 : decode cX7_hand 12 = .ok (.getfield 12, 3) := gz_d tdX7_hand_t0_ok 8 rfl
theorem dX7_hand_15 : decode cX7_hand 15 = .ok (.getfield 81, 3) := gz_d tdX7_hand_t0_ok 9 rfl
theorem dX7_hand_18 : decode cX7_hand 18 = .ok (.iconst 1, 1) := gz_d tdX7_hand_t0_ok 10 rfl
theorem dX7_hand_19 : decode cX7_hand 19 = .ok (.isub, 1) := gz_d tdX7_hand_t0_ok 11 rfl
theorem dX7_hand_20 : decode cX7_hand 20 = .ok (.invokestatic 50, 3) := gz_d tdX7_hand_t0_ok 12 rfl
theorem dX7_hand_23 : decode cX7_hand 23 = .ok (.ifCond .ne 6, 3) := gz_d tdX7_hand_t0_ok 13 rfl
theorem dX7_hand_26 : decode cX7_hand 26 = .ok (.bipush (-100), 2) := gz_d tdX7_hand_t0_ok 14 rfl
theorem dX7_hand_28 : decode cX7_hand 28 = .ok (.ireturn, 1) := gz_d tdX7_hand_t0_ok 15 rfl
theorem dX7_hand_29 : decode cX7_hand 29 = .ok (.aload_n 0, 1) := gz_d tdX7_hand_t0_ok 16 rfl
theorem dX7_hand_30 : decode cX7_hand 30 = .ok (.getfield 12, 3) := gz_d tdX7_hand_t0_ok 17 rfl
theorem dX7_hand_33 : decode cX7_hand 33 = .ok (.iload_n 1, 1) := gz_d tdX7_hand_t0_ok 18 rfl
theorem dX7_hand_34 : decode cX7_hand 34 = .ok (.invokevirtual 68, 3) := gz_d tdX7_hand_t0_ok 19 rfl
theorem dX7_hand_37 : decode cX7_hand 37 = .ok (.iload_n 2, 1) := gz_d tdX7_hand_t0_ok 20 rfl
theorem dX7_hand_38 : decode cX7_hand 38 = .ok (.iload_n 3, 1) := gz_d tdX7_hand_t0_ok 21 rfl
theorem dX7_hand_39 : decode cX7_hand 39 = .ok (.invokevirtual 84, 3) := gz_d tdX7_hand_t0_ok 22 rfl
theorem dX7_hand_42 : decode cX7_hand 42 = .ok (.ireturn, 1) := gz_d tdX7_hand_t0_ok 23 rfl
def tdX7_throwsOf_t0 : List (Nat × Instr × Nat) := [(0, .aload_n 0, 1), (1, .iload_n 1, 1), (2, .iload_n 2, 1), (3, .invokevirtual 77, 3), (6, .ifCond .eq 18, 3), (9, .aload_n 0, 1), (10, .getfield 12, 3), (13, .iload_n 1, 1), (14, .invokevirtual 68, 3), (17, .iload_n 2, 1), (18, .invokevirtual 88, 3), (21, .goto 5, 3), (24, .bipush (-2), 2), (26, .ireturn, 1)]
theorem tdX7_throwsOf_t0_ok : gz_dec cX7_throwsOf tdX7_throwsOf_t0 = true := by decide +kernel
theorem dX7_throwsOf_0 : decode cX7_throwsOf 0 = .ok (.aload_n 0, 1) := gz_d tdX7_throwsOf_t0_ok 0 rfl
theorem dX7_throwsOf_1 : decode cX7_throwsOf 1 = .ok (.iload_n 1, 1) := gz_d tdX7_throwsOf_t0_ok 1 rfl
theorem dX7_throwsOf_2 : decode cX7_throwsOf 2 = .ok (.iload_n 2, 1) := gz_d tdX7_throwsOf_t0_ok 2 rfl
theorem dX7_throwsOf_3 : decode cX7_throwsOf 3 = .ok (.invokevirtual 77, 3) := gz_d tdX7_throwsOf_t0_ok 3 rfl
theorem dX7_throwsOf_6 : decode cX7_throwsOf 6 = .ok (.ifCond .eq 18, 3) := gz_d tdX7_throwsOf_t0_ok 4 rfl
theorem dX7_throwsOf_9 : decode cX7_throwsOf 9 = .ok (.aload_n 0, 1) := gz_d tdX7_throwsOf_t0_ok 5 rfl
theorem dX7_throwsOf_10 : decode cX7_throwsOf 10 = .ok (.getfield 12, 3) := gz_d tdX7_throwsOf_t0_ok 6 rfl
theorem dX7_throwsOf_13 : decode cX7_throwsOf 13 = .ok (.iload_n 1, 1) := gz_d tdX7_throwsOf_t0_ok 7 rfl
theorem dX7_throwsOf_14 : decode cX7_throwsOf 14 = .ok (.invokevirtual 68, 3) := gz_d tdX7_throwsOf_t0_ok 8 rfl
theorem dX7_throwsOf_17 : decode cX7_throwsOf 17 = .ok (.iload_n 2, 1) := gz_d tdX7_throwsOf_t0_ok 9 rfl
theorem dX7_throwsOf_18 : decode cX7_throwsOf 18 = .ok (.invokevirtual 88, 3) := gz_d tdX7_throwsOf_t0_ok 10 rfl
theorem dX7_throwsOf_21 : decode cX7_throwsOf 21 = .ok (.goto 5, 3) := gz_d tdX7_throwsOf_t0_ok 11 rfl
theorem dX7_throwsOf_24 : decode cX7_throwsOf 24 = .ok (.bipush (-2), 2) := gz_d tdX7_throwsOf_t0_ok 12 rfl
theorem dX7_throwsOf_26 : decode cX7_throwsOf 26 = .ok (.ireturn, 1) := gz_d tdX7_throwsOf_t0_ok 13 rfl
def tdX7_holds_t0 : List (Nat × Instr × Nat) := [(0, .aload_n 0, 1), (1, .iconst 0, 1), (2, .iload_n 1, 1), (3, .invokevirtual 77, 3), (6, .ifCond .eq 20, 3), (9, .aload_n 0, 1), (10, .iconst 1, 1), (11, .iload_n 2, 1), (12, .invokevirtual 77, 3), (15, .ifCond .eq 11, 3), (18, .aload_n 0, 1), (19, .iload_n 3, 1), (20, .invokevirtual 92, 3), (23, .ifCond .ne 6, 3), (26, .bipush (-2), 2), (28, .ireturn, 1), (29, .aload_n 0, 1), (30, .getfield 12, 3), (33, .iload_n 1, 1), (34, .iload_n 2, 1), (35, .iload_n 3, 1), (36, .invokevirtual 95, 3), (39, .ifCond .eq 7, 3), (42, .iconst 1, 1), (43, .goto 4, 3), (46, .iconst 0, 1), (47, .ireturn, 1)]
theorem tdX7_holds_t0_ok : gz_dec cX7_holds tdX7_holds_t0 = true := by decide +kernel
theorem dX7_holds_0 : decode cX7_holds 0 = .ok (.aload_n 0, 1) := gz_d tdX7_holds_t0_ok 0 rfl
theorem dX7_holds_1 : decode cX7_holds 1 = .ok (.iconst 0, 1) := gz_d tdX7_holds_t0_ok 1 rfl
theorem dX7_holds_2 : decode cX7_holds 2 = .ok (.iload_n 1, 1) := gz_d tdX7_holds_t0_ok 2 rfl
theorem dX7_holds_3 : decode cX7_holds 3 = .ok (.invokevirtual 77, 3) := gz_d tdX7_holds_t0_ok 3 rfl
theorem dX7_holds_6 : decode cX7_holds 6 = .ok (.ifCond .eq 20, 3) := gz_d tdX7_holds_t0_ok 4 rfl
theorem dX7_holds_9 : decode cX7_holds 9 = .ok (.aload_n 0, 1) := gz_d tdX7_holds_t0_ok 5 rfl
theorem dX7_holds_10 : decode cX7_holds 10 = .ok (.iconst 1, 1) := gz_d tdX7_holds_t0_ok 6 rfl
theorem dX7_holds_11 : decode cX7_holds 11 = .ok (.iload_n 2, 1) := gz_d tdX7_holds_t0_ok 7 rfl
theorem dX7_holds_12 : decode cX7_holds 12 = .ok (.invokevirtual 77, 3) := gz_d tdX7_holds_t0_ok 8 rfl
theorem dX7_holds_15 : decode cX7_holds 15 = .ok (.ifCond .eq 11, 3) := gz_d tdX7_holds_t0_ok 9 rfl
theorem dX7_holds_18 : decode cX7_holds 18 = .ok (.aload_n 0, 1) := gz_d tdX7_holds_t0_ok 10 rfl
theorem dX7_holds_19 : decode cX7_holds 19 = .ok (.iload_n 3, 1) := gz_d tdX7_holds_t0_ok 11 rfl
theorem dX7_holds_20 : decode cX7_holds 20 = .ok (.invokevirtual 92, 3) := gz_d tdX7_holds_t0_ok 12 rfl
theorem dX7_holds_23 : decode cX7_holds 23 = .ok (.ifCond .ne 6, 3) := gz_d tdX7_holds_t0_ok 13 rfl
theorem dX7_holds_26 : decode cX7_holds 26 = .ok (.bipush (-2), 2) := gz_d tdX7_holds_t0_ok 14 rfl
theorem dX7_holds_28 : decode cX7_holds 28 = .ok (.ireturn, 1) := gz_d tdX7_holds_t0_ok 15 rfl
theorem dX7_holds_29 : decode cX7_holds 29 = .ok (.aload_n 0, 1) := gz_d tdX7_holds_t0_ok 16 rfl
theorem dX7_holds_30 : decode cX7_holds 30 = .ok (.getfield 12, 3) := gz_d tdX7_holds_t0_ok 17 rfl
theorem dX7_holds_33 : decode cX7_holds 33 = .ok (.iload_n 1, 1) := gz_d tdX7_holds_t0_ok 18 rfl
theorem dX7_holds_34 : decode cX7_holds 34 = .ok (.iload_n 2, 1) := gz_d tdX7_holds_t0_ok 19 rfl
theorem dX7_holds_35 : decode cX7_holds 35 = .ok (.iload_n 3, 1) := gz_d tdX7_holds_t0_ok 20 rfl
theorem dX7_holds_36 : decode cX7_holds 36 = .ok (.invokevirtual 95, 3) := gz_d tdX7_holds_t0_ok 21 rfl
theorem dX7_holds_39 : decode cX7_holds 39 = .ok (.ifCond .eq 7, 3) := gz_d tdX7_holds_t0_ok 22 rfl
theorem dX7_holds_42 : decode cX7_holds 42 = .ok (.iconst 1, 1) := gz_d tdX7_holds_t0_ok 23 rfl
theorem dX7_holds_43 : decode cX7_holds 43 = .ok (.goto 4, 3) := gz_d tdX7_holds_t0_ok 24 rfl
theorem dX7_holds_46 : decode cX7_holds 46 = .ok (.iconst 0, 1) := gz_d tdX7_holds_t0_ok 25 rfl
theorem dX7_holds_47 : decode cX7_holds 47 = .ok (.ireturn, 1) := gz_d tdX7_holds_t0_ok 26 rfl
def tdX7_chance_t0 : List (Nat × Instr × Nat) := [(0, .aload_n 0, 1), (1, .iload_n 1, 1), (2, .iload_n 2, 1), (3, .invokevirtual 77, 3), (6, .ifCond .eq 21, 3), (9, .aload_n 0, 1), (10, .iload_n 3, 1), (11, .invokevirtual 92, 3), (14, .ifCond .eq 13, 3), (17, .iload 4, 2), (19, .iconst 0, 1), (20, .iconst 1, 1), (21, .invokestatic 50, 3), (24, .ifCond .ne 6, 3), (27, .bipush (-2), 2), (29, .ireturn, 1), (30, .aload_n 0, 1), (31, .getfield 12, 3), (34, .iload_n 1, 1), (35, .iload_n 2, 1), (36, .iload_n 3, 1), (37, .invokevirtual 98, 3), (40, .istore 5, 2), (42, .aload_n 0, 1), (43, .getfield 12, 3), (46, .iconst 1, 1), (47, .iload_n 1, 1), (48, .isub, 1), (49, .invokevirtual 68, 3), (52, .invokevirtual 102, 3), (55, .istore 6, 2), (57, .iload 5, 2), (59, .iload 6, 2), (61, .invokestatic 106, 3), (64, .istore 7, 2), (66, .iload 4, 2), (68, .ifCond .ne 8, 3), (71, .iload 5, 2), (73, .goto 5, 3), (76, .iload 6, 2), (78, .iload 7, 2), (80, .invokestatic 109, 3), (83, .ireturn, 1)]
theorem tdX7_chance_t0_ok : gz_dec cX7_chance tdX7_chance_t0 = true := by decide +kernel
theorem dX7_chance_0 : decode cX7_chance 0 = .ok (.aload_n 0, 1) := gz_d tdX7_chance_t0_ok 0 rfl
theorem dX7_chance_1 : decode cX7_chance 1 = .ok (.iload_n 1, 1) := gz_d tdX7_chance_t0_ok 1 rfl
theorem dX7_chance_2 : decode cX7_chance 2 = .ok (.iload_n 2, 1) := gz_d tdX7_chance_t0_ok 2 rfl
theorem dX7_chance_3 : decode cX7_chance 3 = .ok (.invokevirtual 77, 3) := gz_d tdX7_chance_t0_ok 3 rfl
theorem dX7_chance_6 : decode cX7_chance 6 = .ok (.ifCond .eq 21, 3) := gz_d tdX7_chance_t0_ok 4 rfl
theorem dX7_chance_9 : decode cX7_chance 9 = .ok (.aload_n 0, 1) := gz_d tdX7_chance_t0_ok 5 rfl
theorem dX7_chance_10 : decode cX7_chance 10 = .ok (.iload_n 3, 1) := gz_d tdX7_chance_t0_ok 6 rfl
theorem dX7_chance_11 : decode cX7_chance 11 = .ok (.invokevirtual 92, 3) := gz_d tdX7_chance_t0_ok 7 rfl
theorem dX7_chance_14 : decode cX7_chance 14 = .ok (.ifCond .eq 13, 3) := gz_d tdX7_chance_t0_ok 8 rfl
theorem dX7_chance_17 : decode cX7_chance 17 = .ok (.iload 4, 2) := gz_d tdX7_chance_t0_ok 9 rfl
theorem dX7_chance_19 : decode cX7_chance 19 = .ok (.iconst 0, 1) := gz_d tdX7_chance_t0_ok 10 rfl
theorem dX7_chance_20 : decode cX7_chance 20 = .ok (.iconst 1, 1) := gz_d tdX7_chance_t0_ok 11 rfl
theorem dX7_chance_21 : decode cX7_chance 21 = .ok (.invokestatic 50, 3) := gz_d tdX7_chance_t0_ok 12 rfl
theorem dX7_chance_24 : decode cX7_chance 24 = .ok (.ifCond .ne 6, 3) := gz_d tdX7_chance_t0_ok 13 rfl
theorem dX7_chance_27 : decode cX7_chance 27 = .ok (.bipush (-2), 2) := gz_d tdX7_chance_t0_ok 14 rfl
theorem dX7_chance_29 : decode cX7_chance 29 = .ok (.ireturn, 1) := gz_d tdX7_chance_t0_ok 15 rfl
theorem dX7_chance_30 : decode cX7_chance 30 = .ok (.aload_n 0, 1) := gz_d tdX7_chance_t0_ok 16 rfl
theorem dX7_chance_31 : decode cX7_chance 31 = .ok (.getfield 12, 3) := gz_d tdX7_chance_t0_ok 17 rfl
theorem dX7_chance_34 : decode cX7_chance 34 = .ok (.iload_n 1, 1) := gz_d tdX7_chance_t0_ok 18 rfl
theorem dX7_chance_35 : decode cX7_chance 35 = .ok (.iload_n 2, 1) := gz_d tdX7_chance_t0_ok 19 rfl
theorem dX7_chance_36 : decode cX7_chance 36 = .ok (.iload_n 3, 1) := gz_d tdX7_chance_t0_ok 20 rfl
theorem dX7_chance_37 : decode cX7_chance 37 = .ok (.invokevirtual 98, 3) := gz_d tdX7_chance_t0_ok 21 rfl
theorem dX7_chance_40 : decode cX7_chance 40 = .ok (.istore 5, 2) := gz_d tdX7_chance_t0_ok 22 rfl
theorem dX7_chance_42 : decode cX7_chance 42 = .ok (.aload_n 0, 1) := gz_d tdX7_chance_t0_ok 23 rfl
theorem dX7_chance_43 : decode cX7_chance 43 = .ok (.getfield 12, 3) := gz_d tdX7_chance_t0_ok 24 rfl
theorem dX7_chance_46 : decode cX7_chance 46 = .ok (.iconst 1, 1) := gz_d tdX7_chance_t0_ok 25 rfl
theorem dX7_chance_47 : decode cX7_chance 47 = .ok (.iload_n 1, 1) := gz_d tdX7_chance_t0_ok 26 rfl
theorem dX7_chance_48 : decode cX7_chance 48 = .ok (.isub, 1) := gz_d tdX7_chance_t0_ok 27 rfl
theorem dX7_chance_49 : decode cX7_chance 49 = .ok (.invokevirtual 68, 3) := gz_d tdX7_chance_t0_ok 28 rfl
theorem dX7_chance_52 : decode cX7_chance 52 = .ok (.invokevirtual 102, 3) := gz_d tdX7_chance_t0_ok 29 rfl
theorem dX7_chance_55 : decode cX7_chance 55 = .ok (.istore 6, 2) := gz_d tdX7_chance_t0_ok 30 rfl
theorem dX7_chance_57 : decode cX7_chance 57 = .ok (.iload 5, 2) := gz_d tdX7_chance_t0_ok 31 rfl
theorem dX7_chance_59 : decode cX7_chance 59 = .ok (.iload 6, 2) := gz_d tdX7_chance_t0_ok 32 rfl
theorem dX7_chance_61 : decode cX7_chance 61 = .ok (.invokestatic 106, 3) := gz_d tdX7_chance_t0_ok 33 rfl
theorem dX7_chance_64 : decode cX7_chance 64 = .ok (.istore 7, 2) := gz_d tdX7_chance_t0_ok 34 rfl
theorem dX7_chance_66 : decode cX7_chance 66 = .ok (.iload 4, 2) := gz_d tdX7_chance_t0_ok 35 rfl
theorem dX7_chance_68 : decode cX7_chance 68 = .ok (.ifCond .ne 8, 3) := gz_d tdX7_chance_t0_ok 36 rfl
theorem dX7_chance_71 : decode cX7_chance 71 = .ok (.iload 5, 2) := gz_d tdX7_chance_t0_ok 37 rfl
theorem dX7_chance_73 : decode cX7_chance 73 = .ok (.goto 5, 3) := gz_d tdX7_chance_t0_ok 38 rfl
theorem dX7_chance_76 : decode cX7_chance 76 = .ok (.iload 6, 2) := gz_d tdX7_chance_t0_ok 39 rfl
theorem dX7_chance_78 : decode cX7_chance 78 = .ok (.iload 7, 2) := gz_d tdX7_chance_t0_ok 40 rfl
theorem dX7_chance_80 : decode cX7_chance 80 = .ok (.invokestatic 109, 3) := gz_d tdX7_chance_t0_ok 41 rfl
theorem dX7_chance_83 : decode cX7_chance 83 = .ok (.ireturn, 1) := gz_d tdX7_chance_t0_ok 42 rfl
def tdX7_surest_t0 : List (Nat × Instr × Nat) := [(0, .aload_n 0, 1), (1, .iload_n 1, 1), (2, .iload_n 2, 1), (3, .invokevirtual 77, 3), (6, .ifCond .eq 24, 3), (9, .iload_n 3, 1), (10, .iconst 1, 1), (11, .bipush 100, 2), (13, .invokestatic 50, 3), (16, .ifCond .eq 14, 3), (19, .iload 4, 2), (21, .iconst 1, 1), (22, .bipush 100, 2), (24, .invokestatic 50, 3), (27, .ifCond .ne 6, 3), (30, .bipush (-2), 2), (32, .ireturn, 1), (33, .aload_n 0, 1), (34, .getfield 12, 3), (37, .iconst 1, 1), (38, .iload_n 1, 1), (39, .isub, 1), (40, .invokevirtual 68, 3), (43, .invokevirtual 102, 3), (46, .istore 5, 2), (48, .aload_n 0, 1), (49, .getfield 12, 3), (52, .getfield 60, 3), (55, .iconst 1, 1), (56, .isub, 1), (57, .istore 6, 2), (59, .iload 6, 2), (61, .ifCond .lt 33, 3), (64, .aload_n 0, 1), (65, .getfield 12, 3), (68, .iload_n 1, 1), (69, .iload_n 2, 1), (70, .iload 6, 2), (72, .invokevirtual 98, 3), (75, .iload 4, 2), (77, .imul, 1), (78, .iload_n 3, 1), (79, .iload 5, 2), (81, .imul, 1), (82, .if_icmp .lt 6, 3), (85, .iload 6, 2), (87, .ireturn, 1), (88, .iinc 6 (-1), 3), (91, .goto (-32), 3), (94, .iconst (-1), 1), (95, .ireturn, 1)]
theorem tdX7_surest_t0_ok : gz_dec cX7_surest tdX7_surest_t0 = true := by decide +kernel
theorem dX7_surest_0 : decode cX7_surest 0 = .ok (.aload_n 0, 1) := gz_d tdX7_surest_t0_ok 0 rfl
theorem dX7_surest_1 : decode cX7_surest 1 = .ok (.iload_n 1, 1) := gz_d tdX7_surest_t0_ok 1 rfl
theorem dX7_surest_2 : decode cX7_surest 2 = .ok (.iload_n 2, 1) := gz_d tdX7_surest_t0_ok 2 rfl
theorem dX7_surest_3 : decode cX7_surest 3 = .ok (.invokevirtual 77, 3) := gz_d tdX7_surest_t0_ok 3 rfl
theorem dX7_surest_6 : decode cX7_surest 6 = .ok (.ifCond .eq 24, 3) := gz_d tdX7_surest_t0_ok 4 rfl
theorem dX7_surest_9 : decode cX7_surest 9 = .ok (.iload_n 3, 1) := gz_d tdX7_surest_t0_ok 5 rfl
theorem dX7_surest_10 : decode cX7_surest 10 = .ok (.iconst 1, 1) := gz_d tdX7_surest_t0_ok 6 rfl
theorem dX7_surest_11 : decode cX7_surest 11 = .ok (.bipush 100, 2) := gz_d tdX7_surest_t0_ok 7 rfl
theorem dX7_surest_13 : decode cX7_surest 13 = .ok (.invokestatic 50, 3) := gz_d tdX7_surest_t0_ok 8 rfl
theorem dX7_surest_16 : decode cX7_surest 16 = .ok (.ifCond .eq 14, 3) := gz_d tdX7_surest_t0_ok 9 rfl
theorem dX7_surest_19 : decode cX7_surest 19 = .ok (.iload 4, 2) := gz_d tdX7_surest_t0_ok 10 rfl
theorem dX7_surest_21 : decode cX7_surest 21 = .ok (.iconst 1, 1) := gz_d tdX7_surest_t0_ok 11 rfl
theorem dX7_surest_22 : decode cX7_surest 22 = .ok (.bipush 100, 2) := gz_d tdX7_surest_t0_ok 12 rfl
theorem dX7_surest_24 : decode cX7_surest 24 = .ok (.invokestatic 50, 3) := gz_d tdX7_surest_t0_ok 13 rfl
theorem dX7_surest_27 : decode cX7_surest 27 = .ok (.ifCond .ne 6, 3) := gz_d tdX7_surest_t0_ok 14 rfl
theorem dX7_surest_30 : decode cX7_surest 30 = .ok (.bipush (-2), 2) := gz_d tdX7_surest_t0_ok 15 rfl
theorem dX7_surest_32 : decode cX7_surest 32 = .ok (.ireturn, 1) := gz_d tdX7_surest_t0_ok 16 rfl
theorem dX7_surest_33 : decode cX7_surest 33 = .ok (.aload_n 0, 1) := gz_d tdX7_surest_t0_ok 17 rfl
theorem dX7_surest_34 : decode cX7_surest 34 = .ok (.getfield 12, 3) := gz_d tdX7_surest_t0_ok 18 rfl
theorem dX7_surest_37 : decode cX7_surest 37 = .ok (.iconst 1, 1) := gz_d tdX7_surest_t0_ok 19 rfl
theorem dX7_surest_38 : decode cX7_surest 38 = .ok (.iload_n 1, 1) := gz_d tdX7_surest_t0_ok 20 rfl
theorem dX7_surest_39 : decode cX7_surest 39 = .ok (.isub, 1) := gz_d tdX7_surest_t0_ok 21 rfl
theorem dX7_surest_40 : decode cX7_surest 40 = .ok (.invokevirtual 68, 3) := gz_d tdX7_surest_t0_ok 22 rfl
theorem dX7_surest_43 : decode cX7_surest 43 = .ok (.invokevirtual 102, 3) := gz_d tdX7_surest_t0_ok 23 rfl
theorem dX7_surest_46 : decode cX7_surest 46 = .ok (.istore 5, 2) := gz_d tdX7_surest_t0_ok 24 rfl
theorem dX7_surest_48 : decode cX7_surest 48 = .ok (.aload_n 0, 1) := gz_d tdX7_surest_t0_ok 25 rfl
theorem dX7_surest_49 : decode cX7_surest 49 = .ok (.getfield 12, 3) := gz_d tdX7_surest_t0_ok 26 rfl
theorem dX7_surest_52 : decode cX7_surest 52 = .ok (.getfield 60, 3) := gz_d tdX7_surest_t0_ok 27 rfl
theorem dX7_surest_55 : decode cX7_surest 55 = .ok (.iconst 1, 1) := gz_d tdX7_surest_t0_ok 28 rfl
theorem dX7_surest_56 : decode cX7_surest 56 = .ok (.isub, 1) := gz_d tdX7_surest_t0_ok 29 rfl
theorem dX7_surest_57 : decode cX7_surest 57 = .ok (.istore 6, 2) := gz_d tdX7_surest_t0_ok 30 rfl
theorem dX7_surest_59 : decode cX7_surest 59 = .ok (.iload 6, 2) := gz_d tdX7_surest_t0_ok 31 rfl
theorem dX7_surest_61 : decode cX7_surest 61 = .ok (.ifCond .lt 33, 3) := gz_d tdX7_surest_t0_ok 32 rfl
theorem dX7_surest_64 : decode cX7_surest 64 = .ok (.aload_n 0, 1) := gz_d tdX7_surest_t0_ok 33 rfl
theorem dX7_surest_65 : decode cX7_surest 65 = .ok (.getfield 12, 3) := gz_d tdX7_surest_t0_ok 34 rfl
theorem dX7_surest_68 : decode cX7_surest 68 = .ok (.iload_n 1, 1) := gz_d tdX7_surest_t0_ok 35 rfl
theorem dX7_surest_69 : decode cX7_surest 69 = .ok (.iload_n 2, 1) := gz_d tdX7_surest_t0_ok 36 rfl
theorem dX7_surest_70 : decode cX7_surest 70 = .ok (.iload 6, 2) := gz_d tdX7_surest_t0_ok 37 rfl
theorem dX7_surest_72 : decode cX7_surest 72 = .ok (.invokevirtual 98, 3) := gz_d tdX7_surest_t0_ok 38 rfl
theorem dX7_surest_75 : decode cX7_surest 75 = .ok (.iload 4, 2) := gz_d tdX7_surest_t0_ok 39 rfl
theorem dX7_surest_77 : decode cX7_surest 77 = .ok (.imul, 1) := gz_d tdX7_surest_t0_ok 40 rfl
theorem dX7_surest_78 : decode cX7_surest 78 = .ok (.iload_n 3, 1) := gz_d tdX7_surest_t0_ok 41 rfl
theorem dX7_surest_79 : decode cX7_surest 79 = .ok (.iload 5, 2) := gz_d tdX7_surest_t0_ok 42 rfl
theorem dX7_surest_81 : decode cX7_surest 81 = .ok (.imul, 1) := gz_d tdX7_surest_t0_ok 43 rfl
theorem dX7_surest_82 : decode cX7_surest 82 = .ok (.if_icmp .lt 6, 3) := gz_d tdX7_surest_t0_ok 44 rfl
theorem dX7_surest_85 : decode cX7_surest 85 = .ok (.iload 6, 2) := gz_d tdX7_surest_t0_ok 45 rfl
theorem dX7_surest_87 : decode cX7_surest 87 = .ok (.ireturn, 1) := gz_d tdX7_surest_t0_ok 46 rfl
theorem dX7_surest_88 : decode cX7_surest 88 = .ok (.iinc 6 (-1), 3) := gz_d tdX7_surest_t0_ok 47 rfl
theorem dX7_surest_91 : decode cX7_surest 91 = .ok (.goto (-32), 3) := gz_d tdX7_surest_t0_ok 48 rfl
theorem dX7_surest_94 : decode cX7_surest 94 = .ok (.iconst (-1), 1) := gz_d tdX7_surest_t0_ok 49 rfl
theorem dX7_surest_95 : decode cX7_surest 95 = .ok (.ireturn, 1) := gz_d tdX7_surest_t0_ok 50 rfl
def tdX7_weigh_t0 : List (Nat × Instr × Nat) := [(0, .iload_n 1, 1), (1, .invokestatic 112, 3), (4, .ifCond .eq 21, 3), (7, .aload_n 0, 1), (8, .iload_n 2, 1), (9, .iload_n 3, 1), (10, .invokevirtual 77, 3), (13, .ifCond .eq 12, 3), (16, .aload_n 0, 1), (17, .iload 4, 2), (19, .invokevirtual 115, 3), (22, .ifCond .ne 6, 3), (25, .bipush (-2), 2), (27, .ireturn, 1), (28, .aload_n 0, 1), (29, .iload 5, 2), (31, .invokevirtual 115, 3), (34, .ifCond .eq 24, 3), (37, .iload 4, 2), (39, .iload 5, 2), (41, .invokestatic 118, 3), (44, .ifCond .eq 14, 3), (47, .iload 6, 2), (49, .iconst 0, 1), (50, .bipush 20, 2), (52, .invokestatic 50, 3), (55, .ifCond .ne 6, 3), (58, .bipush (-2), 2), (60, .ireturn, 1), (61, .aload_n 0, 1), (62, .getfield 19, 3), (65, .aload_n 0, 1), (66, .getfield 19, 3), (69, .iload_n 1, 1), (70, .aload_n 0, 1), (71, .getfield 12, 3), (74, .iload_n 2, 1), (75, .invokevirtual 68, 3), (78, .getfield 121, 3), (81, .iload_n 3, 1), (82, .iload 4, 2), (84, .iload 5, 2), (86, .invokevirtual 124, 3), (89, .iload 6, 2), (91, .invokevirtual 128, 3), (94, .ireturn, 1)]
theorem tdX7_weigh_t0_ok : gz_dec cX7_weigh tdX7_weigh_t0 = true := by decide +kernel
theorem dX7_weigh_0 : decode cX7_weigh 0 = .ok (.iload_n 1, 1) := gz_d tdX7_weigh_t0_ok 0 rfl
theorem dX7_weigh_1 : decode cX7_weigh 1 = .ok (.invokestatic 112, 3) := gz_d tdX7_weigh_t0_ok 1 rfl
theorem dX7_weigh_4 : decode cX7_weigh 4 = .ok (.ifCond .eq 21, 3) := gz_d tdX7_weigh_t0_ok 2 rfl
theorem dX7_weigh_7 : decode cX7_weigh 7 = .ok (.aload_n 0, 1) := gz_d tdX7_weigh_t0_ok 3 rfl
theorem dX7_weigh_8 : decode cX7_weigh 8 = .ok (.iload_n 2, 1) := gz_d tdX7_weigh_t0_ok 4 rfl
theorem dX7_weigh_9 : decode cX7_weigh 9 = .ok (.iload_n 3, 1) := gz_d tdX7_weigh_t0_ok 5 rfl
theorem dX7_weigh_10 : decode cX7_weigh 10 = .ok (.invokevirtual 77, 3) := gz_d tdX7_weigh_t0_ok 6 rfl
theorem dX7_weigh_13 : decode cX7_weigh 13 = .ok (.ifCond .eq 12, 3) := gz_d tdX7_weigh_t0_ok 7 rfl
theorem dX7_weigh_16 : decode cX7_weigh 16 = .ok (.aload_n 0, 1) := gz_d tdX7_weigh_t0_ok 8 rfl
theorem dX7_weigh_17 : decode cX7_weigh 17 = .ok (.iload 4, 2) := gz_d tdX7_weigh_t0_ok 9 rfl
theorem dX7_weigh_19 : decode cX7_weigh 19 = .ok (.invokevirtual 115, 3) := gz_d tdX7_weigh_t0_ok 10 rfl
theorem dX7_weigh_22 : decode cX7_weigh 22 = .ok (.ifCond .ne 6, 3) := gz_d tdX7_weigh_t0_ok 11 rfl
theorem dX7_weigh_25 : decode cX7_weigh 25 = .ok (.bipush (-2), 2) := gz_d tdX7_weigh_t0_ok 12 rfl
theorem dX7_weigh_27 : decode cX7_weigh 27 = .ok (.ireturn, 1) := gz_d tdX7_weigh_t0_ok 13 rfl
theorem dX7_weigh_28 : decode cX7_weigh 28 = .ok (.aload_n 0, 1) := gz_d tdX7_weigh_t0_ok 14 rfl
theorem dX7_weigh_29 : decode cX7_weigh 29 = .ok (.iload 5, 2) := gz_d tdX7_weigh_t0_ok 15 rfl
theorem dX7_weigh_31 : decode cX7_weigh 31 = .ok (.invokevirtual 115, 3) := gz_d tdX7_weigh_t0_ok 16 rfl
theorem dX7_weigh_34 : decode cX7_weigh 34 = .ok (.ifCond .eq 24, 3) := gz_d tdX7_weigh_t0_ok 17 rfl
theorem dX7_weigh_37 : decode cX7_weigh 37 = .ok (.iload 4, 2) := gz_d tdX7_weigh_t0_ok 18 rfl
theorem dX7_weigh_39 : decode cX7_weigh 39 = .ok (.iload 5, 2) := gz_d tdX7_weigh_t0_ok 19 rfl
theorem dX7_weigh_41 : decode cX7_weigh 41 = .ok (.invokestatic 118, 3) := gz_d tdX7_weigh_t0_ok 20 rfl
theorem dX7_weigh_44 : decode cX7_weigh 44 = .ok (.ifCond .eq 14, 3) := gz_d tdX7_weigh_t0_ok 21 rfl
theorem dX7_weigh_47 : decode cX7_weigh 47 = .ok (.iload 6, 2) := gz_d tdX7_weigh_t0_ok 22 rfl
theorem dX7_weigh_49 : decode cX7_weigh 49 = .ok (.iconst 0, 1) := gz_d tdX7_weigh_t0_ok 23 rfl
theorem dX7_weigh_50 : decode cX7_weigh 50 = .ok (.bipush 20, 2) := gz_d tdX7_weigh_t0_ok 24 rfl
theorem dX7_weigh_52 : decode cX7_weigh 52 = .ok (.invokestatic 50, 3) := gz_d tdX7_weigh_t0_ok 25 rfl
theorem dX7_weigh_55 : decode cX7_weigh 55 = .ok (.ifCond .ne 6, 3) := gz_d tdX7_weigh_t0_ok 26 rfl
theorem dX7_weigh_58 : decode cX7_weigh 58 = .ok (.bipush (-2), 2) := gz_d tdX7_weigh_t0_ok 27 rfl
theorem dX7_weigh_60 : decode cX7_weigh 60 = .ok (.ireturn, 1) := gz_d tdX7_weigh_t0_ok 28 rfl
theorem dX7_weigh_61 : decode cX7_weigh 61 = .ok (.aload_n 0, 1) := gz_d tdX7_weigh_t0_ok 29 rfl
theorem dX7_weigh_62 : decode cX7_weigh 62 = .ok (.getfield 19, 3) := gz_d tdX7_weigh_t0_ok 30 rfl
theorem dX7_weigh_65 : decode cX7_weigh 65 = .ok (.aload_n 0, 1) := gz_d tdX7_weigh_t0_ok 31 rfl
theorem dX7_weigh_66 : decode cX7_weigh 66 = .ok (.getfield 19, 3) := gz_d tdX7_weigh_t0_ok 32 rfl
theorem dX7_weigh_69 : decode cX7_weigh 69 = .ok (.iload_n 1, 1) := gz_d tdX7_weigh_t0_ok 33 rfl
theorem dX7_weigh_70 : decode cX7_weigh 70 = .ok (.aload_n 0, 1) := gz_d tdX7_weigh_t0_ok 34 rfl
theorem dX7_weigh_71 : decode cX7_weigh 71 = .ok (.getfield 12, 3) := gz_d tdX7_weigh_t0_ok 35 rfl
theorem dX7_weigh_74 : decode cX7_weigh 74 = .ok (.iload_n 2, 1) := gz_d tdX7_weigh_t0_ok 36 rfl
theorem dX7_weigh_75 : decode cX7_weigh 75 = .ok (.invokevirtual 68, 3) := gz_d tdX7_weigh_t0_ok 37 rfl
theorem dX7_weigh_78 : decode cX7_weigh 78 = .ok (.getfield 121, 3) := gz_d tdX7_weigh_t0_ok 38 rfl
theorem dX7_weigh_81 : decode cX7_weigh 81 = .ok (.iload_n 3, 1) := gz_d tdX7_weigh_t0_ok 39 rfl
theorem dX7_weigh_82 : decode cX7_weigh 82 = .ok (.iload 4, 2) := gz_d tdX7_weigh_t0_ok 40 rfl
theorem dX7_weigh_84 : decode cX7_weigh 84 = .ok (.iload 5, 2) := gz_d tdX7_weigh_t0_ok 41 rfl
theorem dX7_weigh_86 : decode cX7_weigh 86 = .ok (.invokevirtual 124, 3) := gz_d tdX7_weigh_t0_ok 42 rfl
theorem dX7_weigh_89 : decode cX7_weigh 89 = .ok (.iload 6, 2) := gz_d tdX7_weigh_t0_ok 43 rfl
theorem dX7_weigh_91 : decode cX7_weigh 91 = .ok (.invokevirtual 128, 3) := gz_d tdX7_weigh_t0_ok 44 rfl
theorem dX7_weigh_94 : decode cX7_weigh 94 = .ok (.ireturn, 1) := gz_d tdX7_weigh_t0_ok 45 rfl
def tdX7_worth_t0 : List (Nat × Instr × Nat) := [(0, .iload_n 1, 1), (1, .invokestatic 112, 3), (4, .ifCond .eq 10, 3), (7, .iload_n 2, 1), (8, .invokestatic 112, 3), (11, .ifCond .ne 7, 3), (14, .ldc2_w 131, 3), (17, .lreturn, 1), (18, .aload_n 0, 1), (19, .getfield 28, 3), (22, .aload_n 0, 1), (23, .getfield 19, 3), (26, .iload_n 1, 1), (27, .iload_n 2, 1), (28, .invokevirtual 133, 3), (31, .invokestatic 137, 3), (34, .lreturn, 1)]
theorem tdX7_worth_t0_ok : gz_dec cX7_worth tdX7_worth_t0 = true := by decide +kernel
theorem dX7_worth_0 : decode cX7_worth 0 = .ok (.iload_n 1, 1) := gz_d tdX7_worth_t0_ok 0 rfl
theorem dX7_worth_1 : decode cX7_worth 1 = .ok (.invokestatic 112, 3) := gz_d tdX7_worth_t0_ok 1 rfl
theorem dX7_worth_4 : decode cX7_worth 4 = .ok (.ifCond .eq 10, 3) := gz_d tdX7_worth_t0_ok 2 rfl
theorem dX7_worth_7 : decode cX7_worth 7 = .ok (.iload_n 2, 1) := gz_d tdX7_worth_t0_ok 3 rfl
theorem dX7_worth_8 : decode cX7_worth 8 = .ok (.invokestatic 112, 3) := gz_d tdX7_worth_t0_ok 4 rfl
theorem dX7_worth_11 : decode cX7_worth 11 = .ok (.ifCond .ne 7, 3) := gz_d tdX7_worth_t0_ok 5 rfl
theorem dX7_worth_14 : decode cX7_worth 14 = .ok (.ldc2_w 131, 3) := gz_d tdX7_worth_t0_ok 6 rfl
theorem dX7_worth_17 : decode cX7_worth 17 = .ok (.lreturn, 1) := gz_d tdX7_worth_t0_ok 7 rfl
theorem dX7_worth_18 : decode cX7_worth 18 = .ok (.aload_n 0, 1) := gz_d tdX7_worth_t0_ok 8 rfl
theorem dX7_worth_19 : decode cX7_worth 19 = .ok (.getfield 28, 3) := gz_d tdX7_worth_t0_ok 9 rfl
theorem dX7_worth_22 : decode cX7_worth 22 = .ok (.aload_n 0, 1) := gz_d tdX7_worth_t0_ok 10 rfl
theorem dX7_worth_23 : decode cX7_worth 23 = .ok (.getfield 19, 3) := gz_d tdX7_worth_t0_ok 11 rfl
theorem dX7_worth_26 : decode cX7_worth 26 = .ok (.iload_n 1, 1) := gz_d tdX7_worth_t0_ok 12 rfl
theorem dX7_worth_27 : decode cX7_worth 27 = .ok (.iload_n 2, 1) := gz_d tdX7_worth_t0_ok 13 rfl
theorem dX7_worth_28 : decode cX7_worth 28 = .ok (.invokevirtual 133, 3) := gz_d tdX7_worth_t0_ok 14 rfl
theorem dX7_worth_31 : decode cX7_worth 31 = .ok (.invokestatic 137, 3) := gz_d tdX7_worth_t0_ok 15 rfl
theorem dX7_worth_34 : decode cX7_worth 34 = .ok (.lreturn, 1) := gz_d tdX7_worth_t0_ok 16 rfl
def tdX7_answer_t0 : List (Nat × Instr × Nat) := [(0, .iload_n 1, 1), (1, .invokestatic 64, 3), (4, .ifCond .eq 10, 3), (7, .iload_n 2, 1), (8, .invokestatic 112, 3), (11, .ifCond .ne 7, 3), (14, .ldc2_w 131, 3), (17, .lreturn, 1), (18, .aload_n 0, 1), (19, .getfield 35, 3), (22, .aload_n 0, 1), (23, .getfield 19, 3), (26, .iload_n 2, 1), (27, .iload_n 1, 1), (28, .invokevirtual 141, 3), (31, .aload_n 0, 1), (32, .getfield 35, 3), (35, .invokevirtual 145, 3), (38, .invokestatic 137, 3), (41, .lreturn, 1)]
theorem tdX7_answer_t0_ok : gz_dec cX7_answer tdX7_answer_t0 = true := by decide +kernel
theorem dX7_answer_0 : decode cX7_answer 0 = .ok (.iload_n 1, 1) := gz_d tdX7_answer_t0_ok 0 rfl
theorem dX7_answer_1 : decode cX7_answer 1 = .ok (.invokestatic 64, 3) := gz_d tdX7_answer_t0_ok 1 rfl
theorem dX7_answer_4 : decode cX7_answer 4 = .ok (.ifCond .eq 10, 3) := gz_d tdX7_answer_t0_ok 2 rfl
theorem dX7_answer_7 : decode cX7_answer 7 = .ok (.iload_n 2, 1) := gz_d tdX7_answer_t0_ok 3 rfl
theorem dX7_answer_8 : decode cX7_answer 8 = .ok (.invokestatic 112, 3) := gz_d tdX7_answer_t0_ok 4 rfl
theorem dX7_answer_11 : decode cX7_answer 11 = .ok (.ifCond .ne 7, 3) := gz_d tdX7_answer_t0_ok 5 rfl
theorem dX7_answer_14 : decode cX7_answer 14 = .ok (.ldc2_w 131, 3) := gz_d tdX7_answer_t0_ok 6 rfl
theorem dX7_answer_17 : decode cX7_answer 17 = .ok (.lreturn, 1) := gz_d tdX7_answer_t0_ok 7 rfl
theorem dX7_answer_18 : decode cX7_answer 18 = .ok (.aload_n 0, 1) := gz_d tdX7_answer_t0_ok 8 rfl
theorem dX7_answer_19 : decode cX7_answer 19 = .ok (.getfield 35, 3) := gz_d tdX7_answer_t0_ok 9 rfl
theorem dX7_answer_22 : decode cX7_answer 22 = .ok (.aload_n 0, 1) := gz_d tdX7_answer_t0_ok 10 rfl
theorem dX7_answer_23 : decode cX7_answer 23 = .ok (.getfield 19, 3) := gz_d tdX7_answer_t0_ok 11 rfl
theorem dX7_answer_26 : decode cX7_answer 26 = .ok (.iload_n 2, 1) := gz_d tdX7_answer_t0_ok 12 rfl
theorem dX7_answer_27 : decode cX7_answer 27 = .ok (.iload_n 1, 1) := gz_d tdX7_answer_t0_ok 13 rfl
theorem dX7_answer_28 : decode cX7_answer 28 = .ok (.invokevirtual 141, 3) := gz_d tdX7_answer_t0_ok 14 rfl
theorem dX7_answer_31 : decode cX7_answer 31 = .ok (.aload_n 0, 1) := gz_d tdX7_answer_t0_ok 15 rfl
theorem dX7_answer_32 : decode cX7_answer 32 = .ok (.getfield 35, 3) := gz_d tdX7_answer_t0_ok 16 rfl
theorem dX7_answer_35 : decode cX7_answer 35 = .ok (.invokevirtual 145, 3) := gz_d tdX7_answer_t0_ok 17 rfl
theorem dX7_answer_38 : decode cX7_answer 38 = .ok (.invokestatic 137, 3) := gz_d tdX7_answer_t0_ok 18 rfl
theorem dX7_answer_41 : decode cX7_answer 41 = .ok (.lreturn, 1) := gz_d tdX7_answer_t0_ok 19 rfl
def tdX7_opening_t0 : List (Nat × Instr × Nat) := [(0, .iload_n 1, 1), (1, .invokestatic 112, 3), (4, .ifCond .eq 12, 3), (7, .aload_n 0, 1), (8, .iconst 0, 1), (9, .iload_n 2, 1), (10, .invokevirtual 77, 3), (13, .ifCond .ne 6, 3), (16, .bipush (-100), 2), (18, .ireturn, 1), (19, .aload_n 0, 1), (20, .getfield 35, 3), (23, .aload_n 0, 1), (24, .getfield 19, 3), (27, .iload_n 1, 1), (28, .iconst 0, 1), (29, .invokevirtual 141, 3), (32, .aload_n 0, 1), (33, .getfield 35, 3), (36, .iload_n 2, 1), (37, .invokevirtual 149, 3), (40, .ireturn, 1)]
theorem tdX7_opening_t0_ok : gz_dec cX7_opening tdX7_opening_t0 = true := by decide +kernel
theorem dX7_opening_0 : decode cX7_opening 0 = .ok (.iload_n 1, 1) := gz_d tdX7_opening_t0_ok 0 rfl
theorem dX7_opening_1 : decode cX7_opening 1 = .ok (.invokestatic 112, 3) := gz_d tdX7_opening_t0_ok 1 rfl
theorem dX7_opening_4 : decode cX7_opening 4 = .ok (.ifCond .eq 12, 3) := gz_d tdX7_opening_t0_ok 2 rfl
theorem dX7_opening_7 : decode cX7_opening 7 = .ok (.aload_n 0, 1) := gz_d tdX7_opening_t0_ok 3 rfl
theorem dX7_opening_8 : decode cX7_opening 8 = .ok (.iconst 0, 1) := gz_d tdX7_opening_t0_ok 4 rfl
theorem dX7_opening_9 : decode cX7_opening 9 = .ok (.iload_n 2, 1) := gz_d tdX7_opening_t0_ok 5 rfl
theorem dX7_opening_10 : decode cX7_opening 10 = .ok (.invokevirtual 77, 3) := gz_d tdX7_opening_t0_ok 6 rfl
theorem dX7_opening_13 : decode cX7_opening 13 = .ok (.ifCond .ne 6, 3) := gz_d tdX7_opening_t0_ok 7 rfl
theorem dX7_opening_16 : decode cX7_opening 16 = .ok (.bipush (-100), 2) := gz_d tdX7_opening_t0_ok 8 rfl
theorem dX7_opening_18 : decode cX7_opening 18 = .ok (.ireturn, 1) := gz_d tdX7_opening_t0_ok 9 rfl
theorem dX7_opening_19 : decode cX7_opening 19 = .ok (.aload_n 0, 1) := gz_d tdX7_opening_t0_ok 10 rfl
theorem dX7_opening_20 : decode cX7_opening 20 = .ok (.getfield 35, 3) := gz_d tdX7_opening_t0_ok 11 rfl
theorem dX7_opening_23 : decode cX7_opening 23 = .ok (.aload_n 0, 1) := gz_d tdX7_opening_t0_ok 12 rfl
theorem dX7_opening_24 : decode cX7_opening 24 = .ok (.getfield 19, 3) := gz_d tdX7_opening_t0_ok 13 rfl
theorem dX7_opening_27 : decode cX7_opening 27 = .ok (.iload_n 1, 1) := gz_d tdX7_opening_t0_ok 14 rfl
theorem dX7_opening_28 : decode cX7_opening 28 = .ok (.iconst 0, 1) := gz_d tdX7_opening_t0_ok 15 rfl
theorem dX7_opening_29 : decode cX7_opening 29 = .ok (.invokevirtual 141, 3) := gz_d tdX7_opening_t0_ok 16 rfl
theorem dX7_opening_32 : decode cX7_opening 32 = .ok (.aload_n 0, 1) := gz_d tdX7_opening_t0_ok 17 rfl
theorem dX7_opening_33 : decode cX7_opening 33 = .ok (.getfield 35, 3) := gz_d tdX7_opening_t0_ok 18 rfl
theorem dX7_opening_36 : decode cX7_opening 36 = .ok (.iload_n 2, 1) := gz_d tdX7_opening_t0_ok 19 rfl
theorem dX7_opening_37 : decode cX7_opening 37 = .ok (.invokevirtual 149, 3) := gz_d tdX7_opening_t0_ok 20 rfl
theorem dX7_opening_40 : decode cX7_opening 40 = .ok (.ireturn, 1) := gz_d tdX7_opening_t0_ok 21 rfl
def tdX7_reply_t0 : List (Nat × Instr × Nat) := [(0, .iload_n 1, 1), (1, .invokestatic 112, 3), (4, .ifCond .eq 20, 3), (7, .aload_n 0, 1), (8, .iconst 1, 1), (9, .iload_n 2, 1), (10, .invokevirtual 77, 3), (13, .ifCond .eq 11, 3), (16, .aload_n 0, 1), (17, .iload_n 3, 1), (18, .invokevirtual 92, 3), (21, .ifCond .ne 6, 3), (24, .bipush (-100), 2), (26, .ireturn, 1), (27, .aload_n 0, 1), (28, .getfield 35, 3), (31, .aload_n 0, 1), (32, .getfield 19, 3), (35, .iload_n 1, 1), (36, .iconst 1, 1), (37, .invokevirtual 141, 3), (40, .aload_n 0, 1), (41, .getfield 35, 3), (44, .iload_n 2, 1), (45, .iload_n 3, 1), (46, .invokevirtual 152, 3), (49, .ireturn, 1)]
theorem tdX7_reply_t0_ok : gz_dec cX7_reply tdX7_reply_t0 = true := by decide +kernel
theorem dX7_reply_0 : decode cX7_reply 0 = .ok (.iload_n 1, 1) := gz_d tdX7_reply_t0_ok 0 rfl
theorem dX7_reply_1 : decode cX7_reply 1 = .ok (.invokestatic 112, 3) := gz_d tdX7_reply_t0_ok 1 rfl
theorem dX7_reply_4 : decode cX7_reply 4 = .ok (.ifCond .eq 20, 3) := gz_d tdX7_reply_t0_ok 2 rfl
theorem dX7_reply_7 : decode cX7_reply 7 = .ok (.aload_n 0, 1) := gz_d tdX7_reply_t0_ok 3 rfl
theorem dX7_reply_8 : decode cX7_reply 8 = .ok (.iconst 1, 1) := gz_d tdX7_reply_t0_ok 4 rfl
theorem dX7_reply_9 : decode cX7_reply 9 = .ok (.iload_n 2, 1) := gz_d tdX7_reply_t0_ok 5 rfl
theorem dX7_reply_10 : decode cX7_reply 10 = .ok (.invokevirtual 77, 3) := gz_d tdX7_reply_t0_ok 6 rfl
theorem dX7_reply_13 : decode cX7_reply 13 = .ok (.ifCond .eq 11, 3) := gz_d tdX7_reply_t0_ok 7 rfl
theorem dX7_reply_16 : decode cX7_reply 16 = .ok (.aload_n 0, 1) := gz_d tdX7_reply_t0_ok 8 rfl
theorem dX7_reply_17 : decode cX7_reply 17 = .ok (.iload_n 3, 1) := gz_d tdX7_reply_t0_ok 9 rfl
theorem dX7_reply_18 : decode cX7_reply 18 = .ok (.invokevirtual 92, 3) := gz_d tdX7_reply_t0_ok 10 rfl
theorem dX7_reply_21 : decode cX7_reply 21 = .ok (.ifCond .ne 6, 3) := gz_d tdX7_reply_t0_ok 11 rfl
theorem dX7_reply_24 : decode cX7_reply 24 = .ok (.bipush (-100), 2) := gz_d tdX7_reply_t0_ok 12 rfl
theorem dX7_reply_26 : decode cX7_reply 26 = .ok (.ireturn, 1) := gz_d tdX7_reply_t0_ok 13 rfl
theorem dX7_reply_27 : decode cX7_reply 27 = .ok (.aload_n 0, 1) := gz_d tdX7_reply_t0_ok 14 rfl
theorem dX7_reply_28 : decode cX7_reply 28 = .ok (.getfield 35, 3) := gz_d tdX7_reply_t0_ok 15 rfl
theorem dX7_reply_31 : decode cX7_reply 31 = .ok (.aload_n 0, 1) := gz_d tdX7_reply_t0_ok 16 rfl
theorem dX7_reply_32 : decode cX7_reply 32 = .ok (.getfield 19, 3) := gz_d tdX7_reply_t0_ok 17 rfl
theorem dX7_reply_35 : decode cX7_reply 35 = .ok (.iload_n 1, 1) := gz_d tdX7_reply_t0_ok 18 rfl
theorem dX7_reply_36 : decode cX7_reply 36 = .ok (.iconst 1, 1) := gz_d tdX7_reply_t0_ok 19 rfl
theorem dX7_reply_37 : decode cX7_reply 37 = .ok (.invokevirtual 141, 3) := gz_d tdX7_reply_t0_ok 20 rfl
theorem dX7_reply_40 : decode cX7_reply 40 = .ok (.aload_n 0, 1) := gz_d tdX7_reply_t0_ok 21 rfl
theorem dX7_reply_41 : decode cX7_reply 41 = .ok (.getfield 35, 3) := gz_d tdX7_reply_t0_ok 22 rfl
theorem dX7_reply_44 : decode cX7_reply 44 = .ok (.iload_n 2, 1) := gz_d tdX7_reply_t0_ok 23 rfl
theorem dX7_reply_45 : decode cX7_reply 45 = .ok (.iload_n 3, 1) := gz_d tdX7_reply_t0_ok 24 rfl
theorem dX7_reply_46 : decode cX7_reply 46 = .ok (.invokevirtual 152, 3) := gz_d tdX7_reply_t0_ok 25 rfl
theorem dX7_reply_49 : decode cX7_reply 49 = .ok (.ireturn, 1) := gz_d tdX7_reply_t0_ok 26 rfl
def tdX7_round_t0 : List (Nat × Instr × Nat) := [(0, .iload_n 1, 1), (1, .ifCond .ge 6, 3), (4, .bipush (-2), 2), (6, .ireturn, 1), (7, .aload_n 0, 1), (8, .getfield 42, 3), (11, .iload_n 1, 1), (12, .invokevirtual 155, 3), (15, .aload_n 0, 1), (16, .getfield 42, 3), (19, .iconst 0, 1), (20, .invokevirtual 159, 3), (23, .ireturn, 1)]
theorem tdX7_round_t0_ok : gz_dec cX7_round tdX7_round_t0 = true := by decide +kernel
theorem dX7_round_0 : decode cX7_round 0 = .ok (.iload_n 1, 1) := gz_d tdX7_round_t0_ok 0 rfl
theorem dX7_round_1 : decode cX7_round 1 = .ok (.ifCond .ge 6, 3) := gz_d tdX7_round_t0_ok 1 rfl
theorem dX7_round_4 : decode cX7_round 4 = .ok (.bipush (-2), 2) := gz_d tdX7_round_t0_ok 2 rfl
theorem dX7_round_6 : decode cX7_round 6 = .ok (.ireturn, 1) := gz_d tdX7_round_t0_ok 3 rfl
theorem dX7_round_7 : decode cX7_round 7 = .ok (.aload_n 0, 1) := gz_d tdX7_round_t0_ok 4 rfl
theorem dX7_round_8 : decode cX7_round 8 = .ok (.getfield 42, 3) := gz_d tdX7_round_t0_ok 5 rfl
theorem dX7_round_11 : decode cX7_round 11 = .ok (.iload_n 1, 1) := gz_d tdX7_round_t0_ok 6 rfl
theorem dX7_round_12 : decode cX7_round 12 = .ok (.invokevirtual 155, 3) := gz_d tdX7_round_t0_ok 7 rfl
theorem dX7_round_15 : decode cX7_round 15 = .ok (.aload_n 0, 1) := gz_d tdX7_round_t0_ok 8 rfl
theorem dX7_round_16 : decode cX7_round 16 = .ok (.getfield 42, 3) := gz_d tdX7_round_t0_ok 9 rfl
theorem dX7_round_19 : decode cX7_round 19 = .ok (.iconst 0, 1) := gz_d tdX7_round_t0_ok 10 rfl
theorem dX7_round_20 : decode cX7_round 20 = .ok (.invokevirtual 159, 3) := gz_d tdX7_round_t0_ok 11 rfl
theorem dX7_round_23 : decode cX7_round 23 = .ok (.ireturn, 1) := gz_d tdX7_round_t0_ok 12 rfl
def tdX7_held_t0 : List (Nat × Instr × Nat) := [(0, .iload_n 1, 1), (1, .invokestatic 64, 3), (4, .ifCond .ne 6, 3), (7, .bipush (-2), 2), (9, .ireturn, 1), (10, .aload_n 0, 1), (11, .getfield 42, 3), (14, .getfield 162, 3), (17, .ifCond .eq 14, 3), (20, .aload_n 0, 1), (21, .getfield 42, 3), (24, .iload_n 1, 1), (25, .invokevirtual 159, 3), (28, .goto 5, 3), (31, .bipush (-3), 2), (33, .ireturn, 1)]
theorem tdX7_held_t0_ok : gz_dec cX7_held tdX7_held_t0 = true := by decide +kernel
theorem dX7_held_0 : decode cX7_held 0 = .ok (.iload_n 1, 1) := gz_d tdX7_held_t0_ok 0 rfl
theorem dX7_held_1 : decode cX7_held 1 = .ok (.invokestatic 64, 3) := gz_d tdX7_held_t0_ok 1 rfl
theorem dX7_held_4 : decode cX7_held 4 = .ok (.ifCond .ne 6, 3) := gz_d tdX7_held_t0_ok 2 rfl
theorem dX7_held_7 : decode cX7_held 7 = .ok (.bipush (-2), 2) := gz_d tdX7_held_t0_ok 3 rfl
theorem dX7_held_9 : decode cX7_held 9 = .ok (.ireturn, 1) := gz_d tdX7_held_t0_ok 4 rfl
theorem dX7_held_10 : decode cX7_held 10 = .ok (.aload_n 0, 1) := gz_d tdX7_held_t0_ok 5 rfl
theorem dX7_held_11 : decode cX7_held 11 = .ok (.getfield 42, 3) := gz_d tdX7_held_t0_ok 6 rfl
theorem dX7_held_14 : decode cX7_held 14 = .ok (.getfield 162, 3) := gz_d tdX7_held_t0_ok 7 rfl
theorem dX7_held_17 : decode cX7_held 17 = .ok (.ifCond .eq 14, 3) := gz_d tdX7_held_t0_ok 8 rfl
theorem dX7_held_20 : decode cX7_held 20 = .ok (.aload_n 0, 1) := gz_d tdX7_held_t0_ok 9 rfl
theorem dX7_held_21 : decode cX7_held 21 = .ok (.getfield 42, 3) := gz_d tdX7_held_t0_ok 10 rfl
theorem dX7_held_24 : decode cX7_held 24 = .ok (.iload_n 1, 1) := gz_d tdX7_held_t0_ok 11 rfl
theorem dX7_held_25 : decode cX7_held 25 = .ok (.invokevirtual 159, 3) := gz_d tdX7_held_t0_ok 12 rfl
theorem dX7_held_28 : decode cX7_held 28 = .ok (.goto 5, 3) := gz_d tdX7_held_t0_ok 13 rfl
theorem dX7_held_31 : decode cX7_held 31 = .ok (.bipush (-3), 2) := gz_d tdX7_held_t0_ok 14 rfl
theorem dX7_held_33 : decode cX7_held 33 = .ok (.ireturn, 1) := gz_d tdX7_held_t0_ok 15 rfl
def tdX7_move_t0 : List (Nat × Instr × Nat) := [(0, .aload_n 0, 1), (1, .iload_n 1, 1), (2, .invokevirtual 115, 3), (5, .ifCond .ne 6, 3), (8, .bipush (-2), 2), (10, .ireturn, 1), (11, .aload_n 0, 1), (12, .getfield 42, 3), (15, .invokevirtual 166, 3), (18, .ifCond .eq 17, 3), (21, .aload_n 0, 1), (22, .getfield 42, 3), (25, .getfield 170, 3), (28, .iload_n 1, 1), (29, .invokestatic 118, 3), (32, .ifCond .ne 6, 3), (35, .bipush (-3), 2), (37, .ireturn, 1), (38, .iload_n 1, 1), (39, .iconst (-1), 1), (40, .if_icmp .ne 20, 3), (43, .aload_n 0, 1), (44, .getfield 42, 3), (47, .invokevirtual 173, 3), (50, .aload_n 0, 1), (51, .getfield 42, 3), (54, .getfield 176, 3), (57, .iconst 1, 1), (58, .iadd, 1), (59, .ireturn, 1), (60, .aload_n 0, 1), (61, .getfield 42, 3), (64, .iload_n 1, 1), (65, .invokevirtual 179, 3), (68, .iconst 0, 1), (69, .ireturn, 1)]
theorem tdX7_move_t0_ok : gz_dec cX7_move tdX7_move_t0 = true := by decide +kernel
theorem dX7_move_0 : decode cX7_move 0 = .ok (.aload_n 0, 1) := gz_d tdX7_move_t0_ok 0 rfl
theorem dX7_move_1 : decode cX7_move 1 = .ok (.iload_n 1, 1) := gz_d tdX7_move_t0_ok 1 rfl
theorem dX7_move_2 : decode cX7_move 2 = .ok (.invokevirtual 115, 3) := gz_d tdX7_move_t0_ok 2 rfl
theorem dX7_move_5 : decode cX7_move 5 = .ok (.ifCond .ne 6, 3) := gz_d tdX7_move_t0_ok 3 rfl
theorem dX7_move_8 : decode cX7_move 8 = .ok (.bipush (-2), 2) := gz_d tdX7_move_t0_ok 4 rfl
theorem dX7_move_10 : decode cX7_move 10 = .ok (.ireturn, 1) := gz_d tdX7_move_t0_ok 5 rfl
theorem dX7_move_11 : decode cX7_move 11 = .ok (.aload_n 0, 1) := gz_d tdX7_move_t0_ok 6 rfl
theorem dX7_move_12 : decode cX7_move 12 = .ok (.getfield 42, 3) := gz_d tdX7_move_t0_ok 7 rfl
theorem dX7_move_15 : decode cX7_move 15 = .ok (.invokevirtual 166, 3) := gz_d tdX7_move_t0_ok 8 rfl
theorem dX7_move_18 : decode cX7_move 18 = .ok (.ifCond .eq 17, 3) := gz_d tdX7_move_t0_ok 9 rfl
theorem dX7_move_21 : decode cX7_move 21 = .ok (.aload_n 0, 1) := gz_d tdX7_move_t0_ok 10 rfl
theorem dX7_move_22 : decode cX7_move 22 = .ok (.getfield 42, 3) := gz_d tdX7_move_t0_ok 11 rfl
theorem dX7_move_25 : decode cX7_move 25 = .ok (.getfield 170, 3) := gz_d tdX7_move_t0_ok 12 rfl
theorem dX7_move_28 : decode cX7_move 28 = .ok (.iload_n 1, 1) := gz_d tdX7_move_t0_ok 13 rfl
theorem dX7_move_29 : decode cX7_move 29 = .ok (.invokestatic 118, 3) := gz_d tdX7_move_t0_ok 14 rfl
theorem dX7_move_32 : decode cX7_move 32 = .ok (.ifCond .ne 6, 3) := gz_d tdX7_move_t0_ok 15 rfl
theorem dX7_move_35 : decode cX7_move 35 = .ok (.bipush (-3), 2) := gz_d tdX7_move_t0_ok 16 rfl
theorem dX7_move_37 : decode cX7_move 37 = .ok (.ireturn, 1) := gz_d tdX7_move_t0_ok 17 rfl
theorem dX7_move_38 : decode cX7_move 38 = .ok (.iload_n 1, 1) := gz_d tdX7_move_t0_ok 18 rfl
theorem dX7_move_39 : decode cX7_move 39 = .ok (.iconst (-1), 1) := gz_d tdX7_move_t0_ok 19 rfl
theorem dX7_move_40 : decode cX7_move 40 = .ok (.if_icmp .ne 20, 3) := gz_d tdX7_move_t0_ok 20 rfl
theorem dX7_move_43 : decode cX7_move 43 = .ok (.aload_n 0, 1) := gz_d tdX7_move_t0_ok 21 rfl
theorem dX7_move_44 : decode cX7_move 44 = .ok (.getfield 42, 3) := gz_d tdX7_move_t0_ok 22 rfl
theorem dX7_move_47 : decode cX7_move 47 = .ok (.invokevirtual 173, 3) := gz_d tdX7_move_t0_ok 23 rfl
theorem dX7_move_50 : decode cX7_move 50 = .ok (.aload_n 0, 1) := gz_d tdX7_move_t0_ok 24 rfl
theorem dX7_move_51 : decode cX7_move 51 = .ok (.getfield 42, 3) := gz_d tdX7_move_t0_ok 25 rfl
theorem dX7_move_54 : decode cX7_move 54 = .ok (.getfield 176, 3) := gz_d tdX7_move_t0_ok 26 rfl
theorem dX7_move_57 : decode cX7_move 57 = .ok (.iconst 1, 1) := gz_d tdX7_move_t0_ok 27 rfl
theorem dX7_move_58 : decode cX7_move 58 = .ok (.iadd, 1) := gz_d tdX7_move_t0_ok 28 rfl
theorem dX7_move_59 : decode cX7_move 59 = .ok (.ireturn, 1) := gz_d tdX7_move_t0_ok 29 rfl
theorem dX7_move_60 : decode cX7_move 60 = .ok (.aload_n 0, 1) := gz_d tdX7_move_t0_ok 30 rfl
theorem dX7_move_61 : decode cX7_move 61 = .ok (.getfield 42, 3) := gz_d tdX7_move_t0_ok 31 rfl
theorem dX7_move_64 : decode cX7_move 64 = .ok (.iload_n 1, 1) := gz_d tdX7_move_t0_ok 32 rfl
theorem dX7_move_65 : decode cX7_move 65 = .ok (.invokevirtual 179, 3) := gz_d tdX7_move_t0_ok 33 rfl
theorem dX7_move_68 : decode cX7_move 68 = .ok (.iconst 0, 1) := gz_d tdX7_move_t0_ok 34 rfl
theorem dX7_move_69 : decode cX7_move 69 = .ok (.ireturn, 1) := gz_d tdX7_move_t0_ok 35 rfl
def tdX7_about_t0 : List (Nat × Instr × Nat) := [(0, .iload_n 1, 1), (1, .iconst 0, 1), (2, .iconst 3, 1), (3, .invokestatic 50, 3), (6, .ifCond .ne 6, 3), (9, .bipush (-2), 2), (11, .ireturn, 1), (12, .aload_n 0, 1), (13, .getfield 42, 3), (16, .getfield 162, 3), (19, .ifCond .eq 14, 3), (22, .aload_n 0, 1), (23, .getfield 42, 3), (26, .iload_n 1, 1), (27, .invokevirtual 182, 3), (30, .goto 5, 3), (33, .bipush (-3), 2), (35, .ireturn, 1)]
theorem tdX7_about_t0_ok : gz_dec cX7_about tdX7_about_t0 = true := by decide +kernel
theorem dX7_about_0 : decode cX7_about 0 = .ok (.iload_n 1, 1) := gz_d tdX7_about_t0_ok 0 rfl
theorem dX7_about_1 : decode cX7_about 1 = .ok (.iconst 0, 1) := gz_d tdX7_about_t0_ok 1 rfl
theorem dX7_about_2 : decode cX7_about 2 = .ok (.iconst 3, 1) := gz_d tdX7_about_t0_ok 2 rfl
theorem dX7_about_3 : decode cX7_about 3 = .ok (.invokestatic 50, 3) := gz_d tdX7_about_t0_ok 3 rfl
theorem dX7_about_6 : decode cX7_about 6 = .ok (.ifCond .ne 6, 3) := gz_d tdX7_about_t0_ok 4 rfl
theorem dX7_about_9 : decode cX7_about 9 = .ok (.bipush (-2), 2) := gz_d tdX7_about_t0_ok 5 rfl
theorem dX7_about_11 : decode cX7_about 11 = .ok (.ireturn, 1) := gz_d tdX7_about_t0_ok 6 rfl
theorem dX7_about_12 : decode cX7_about 12 = .ok (.aload_n 0, 1) := gz_d tdX7_about_t0_ok 7 rfl
theorem dX7_about_13 : decode cX7_about 13 = .ok (.getfield 42, 3) := gz_d tdX7_about_t0_ok 8 rfl
theorem dX7_about_16 : decode cX7_about 16 = .ok (.getfield 162, 3) := gz_d tdX7_about_t0_ok 9 rfl
theorem dX7_about_19 : decode cX7_about 19 = .ok (.ifCond .eq 14, 3) := gz_d tdX7_about_t0_ok 10 rfl
theorem dX7_about_22 : decode cX7_about 22 = .ok (.aload_n 0, 1) := gz_d tdX7_about_t0_ok 11 rfl
theorem dX7_about_23 : decode cX7_about 23 = .ok (.getfield 42, 3) := gz_d tdX7_about_t0_ok 12 rfl
theorem dX7_about_26 : decode cX7_about 26 = .ok (.iload_n 1, 1) := gz_d tdX7_about_t0_ok 13 rfl
theorem dX7_about_27 : decode cX7_about 27 = .ok (.invokevirtual 182, 3) := gz_d tdX7_about_t0_ok 14 rfl
theorem dX7_about_30 : decode cX7_about 30 = .ok (.goto 5, 3) := gz_d tdX7_about_t0_ok 15 rfl
theorem dX7_about_33 : decode cX7_about 33 = .ok (.bipush (-3), 2) := gz_d tdX7_about_t0_ok 16 rfl
theorem dX7_about_35 : decode cX7_about 35 = .ok (.ireturn, 1) := gz_d tdX7_about_t0_ok 17 rfl
def tdX7_count_t0 : List (Nat × Instr × Nat) := [(0, .iload_n 1, 1), (1, .tableswitch 115 0 6 #[43, 55, 67, 75, 91, 99, 107], 43), (44, .aload_n 0, 1), (45, .getfield 12, 3), (48, .iconst 0, 1), (49, .invokevirtual 68, 3), (52, .getfield 121, 3), (55, .ireturn, 1), (56, .aload_n 0, 1), (57, .getfield 12, 3), (60, .iconst 1, 1), (61, .invokevirtual 68, 3), (64, .getfield 121, 3), (67, .ireturn, 1), (68, .aload_n 0, 1), (69, .getfield 12, 3), (72, .getfield 81, 3), (75, .ireturn, 1), (76, .aload_n 0, 1), (77, .getfield 12, 3), (80, .getfield 185, 3), (83, .ifCond .eq 7, 3), (86, .iconst 1, 1), (87, .goto 4, 3), (90, .iconst 0, 1), (91, .ireturn, 1), (92, .aload_n 0, 1), (93, .getfield 12, 3), (96, .getfield 60, 3), (99, .ireturn, 1), (100, .aload_n 0, 1), (101, .getfield 42, 3), (104, .getfield 188, 3), (107, .ireturn, 1), (108, .aload_n 0, 1), (109, .getfield 42, 3), (112, .getfield 191, 3), (115, .ireturn, 1), (116, .bipush (-2), 2), (118, .ireturn, 1)]
theorem tdX7_count_t0_ok : gz_dec cX7_count tdX7_count_t0 = true := by decide +kernel
theorem dX7_count_0 : decode cX7_count 0 = .ok (.iload_n 1, 1) := gz_d tdX7_count_t0_ok 0 rfl
theorem dX7_count_1 : decode cX7_count 1 = .ok (.tableswitch 115 0 6 #[43, 55, 67, 75, 91, 99, 107], 43) := gz_d tdX7_count_t0_ok 1 rfl
theorem dX7_count_44 : decode cX7_count 44 = .ok (.aload_n 0, 1) := gz_d tdX7_count_t0_ok 2 rfl
theorem dX7_count_45 : decode cX7_count 45 = .ok (.getfield 12, 3) := gz_d tdX7_count_t0_ok 3 rfl
theorem dX7_count_48 : decode cX7_count 48 = .ok (.iconst 0, 1) := gz_d tdX7_count_t0_ok 4 rfl
theorem dX7_count_49 : decode cX7_count 49 = .ok (.invokevirtual 68, 3) := gz_d tdX7_count_t0_ok 5 rfl
theorem dX7_count_52 : decode cX7_count 52 = .ok (.getfield 121, 3) := gz_d tdX7_count_t0_ok 6 rfl
theorem dX7_count_55 : decode cX7_count 55 = .ok (.ireturn, 1) := gz_d tdX7_count_t0_ok 7 rfl
theorem dX7_count_56 : decode cX7_count 56 = .ok (.aload_n 0, 1) := gz_d tdX7_count_t0_ok 8 rfl
theorem dX7_count_57 : decode cX7_count 57 = .ok (.getfield 12, 3) := gz_d tdX7_count_t0_ok 9 rfl
theorem dX7_count_60 : decode cX7_count 60 = .ok (.iconst 1, 1) := gz_d tdX7_count_t0_ok 10 rfl
theorem dX7_count_61 : decode cX7_count 61 = .ok (.invokevirtual 68, 3) := gz_d tdX7_count_t0_ok 11 rfl
theorem dX7_count_64 : decode cX7_count 64 = .ok (.getfield 121, 3) := gz_d tdX7_count_t0_ok 12 rfl
theorem dX7_count_67 : decode cX7_count 67 = .ok (.ireturn, 1) := gz_d tdX7_count_t0_ok 13 rfl
theorem dX7_count_68 : decode cX7_count 68 = .ok (.aload_n 0, 1) := gz_d tdX7_count_t0_ok 14 rfl
theorem dX7_count_69 : decode cX7_count 69 = .ok (.getfield 12, 3) := gz_d tdX7_count_t0_ok 15 rfl
theorem dX7_count_72 : decode cX7_count 72 = .ok (.getfield 81, 3) := gz_d tdX7_count_t0_ok 16 rfl
theorem dX7_count_75 : decode cX7_count 75 = .ok (.ireturn, 1) := gz_d tdX7_count_t0_ok 17 rfl
theorem dX7_count_76 : decode cX7_count 76 = .ok (.aload_n 0, 1) := gz_d tdX7_count_t0_ok 18 rfl
theorem dX7_count_77 : decode cX7_count 77 = .ok (.getfield 12, 3) := gz_d tdX7_count_t0_ok 19 rfl
theorem dX7_count_80 : decode cX7_count 80 = .ok (.getfield 185, 3) := gz_d tdX7_count_t0_ok 20 rfl
theorem dX7_count_83 : decode cX7_count 83 = .ok (.ifCond .eq 7, 3) := gz_d tdX7_count_t0_ok 21 rfl
theorem dX7_count_86 : decode cX7_count 86 = .ok (.iconst 1, 1) := gz_d tdX7_count_t0_ok 22 rfl
theorem dX7_count_87 : decode cX7_count 87 = .ok (.goto 4, 3) := gz_d tdX7_count_t0_ok 23 rfl
theorem dX7_count_90 : decode cX7_count 90 = .ok (.iconst 0, 1) := gz_d tdX7_count_t0_ok 24 rfl
theorem dX7_count_91 : decode cX7_count 91 = .ok (.ireturn, 1) := gz_d tdX7_count_t0_ok 25 rfl
theorem dX7_count_92 : decode cX7_count 92 = .ok (.aload_n 0, 1) := gz_d tdX7_count_t0_ok 26 rfl
theorem dX7_count_93 : decode cX7_count 93 = .ok (.getfield 12, 3) := gz_d tdX7_count_t0_ok 27 rfl
theorem dX7_count_96 : decode cX7_count 96 = .ok (.getfield 60, 3) := gz_d tdX7_count_t0_ok 28 rfl
theorem dX7_count_99 : decode cX7_count 99 = .ok (.ireturn, 1) := gz_d tdX7_count_t0_ok 29 rfl
theorem dX7_count_100 : decode cX7_count 100 = .ok (.aload_n 0, 1) := gz_d tdX7_count_t0_ok 30 rfl
theorem dX7_count_101 : decode cX7_count 101 = .ok (.getfield 42, 3) := gz_d tdX7_count_t0_ok 31 rfl
theorem dX7_count_104 : decode cX7_count 104 = .ok (.getfield 188, 3) := gz_d tdX7_count_t0_ok 32 rfl
theorem dX7_count_107 : decode cX7_count 107 = .ok (.ireturn, 1) := gz_d tdX7_count_t0_ok 33 rfl
theorem dX7_count_108 : decode cX7_count 108 = .ok (.aload_n 0, 1) := gz_d tdX7_count_t0_ok 34 rfl
theorem dX7_count_109 : decode cX7_count 109 = .ok (.getfield 42, 3) := gz_d tdX7_count_t0_ok 35 rfl
theorem dX7_count_112 : decode cX7_count 112 = .ok (.getfield 191, 3) := gz_d tdX7_count_t0_ok 36 rfl
theorem dX7_count_115 : decode cX7_count 115 = .ok (.ireturn, 1) := gz_d tdX7_count_t0_ok 37 rfl
theorem dX7_count_116 : decode cX7_count 116 = .ok (.bipush (-2), 2) := gz_d tdX7_count_t0_ok 38 rfl
theorem dX7_count_118 : decode cX7_count 118 = .ok (.ireturn, 1) := gz_d tdX7_count_t0_ok 39 rfl
def tdX7_digest_t0 : List (Nat × Instr × Nat) := [(0, .ldc2_w 194, 3), (3, .lstore_n 1, 1), (4, .iconst 0, 1), (5, .istore_n 3, 1), (6, .iload_n 3, 1), (7, .bipush 7, 2), (9, .if_icmp .ge 22, 3), (12, .ldc2_w 196, 3), (15, .lload_n 1, 1), (16, .lmul, 1), (17, .aload_n 0, 1), (18, .iload_n 3, 1), (19, .invokevirtual 198, 3), (22, .i2l, 1), (23, .ladd, 1), (24, .lstore_n 1, 1), (25, .iinc 3 1, 3), (28, .goto (-22), 3), (31, .iconst 0, 1), (32, .istore_n 3, 1), (33, .iload_n 3, 1), (34, .iconst 4, 1), (35, .if_icmp .ge 50, 3), (38, .iconst 0, 1), (39, .istore 4, 2), (41, .iload 4, 2), (43, .iconst 2, 1), (44, .if_icmp .ge 35, 3), (47, .aload_n 0, 1), (48, .getfield 19, 3), (51, .lload_n 1, 1), (52, .iload_n 3, 1), (53, .aload_n 0, 1), (54, .getfield 12, 3), (57, .iload 4, 2), (59, .invokevirtual 68, 3), (62, .aload_n 0, 1), (63, .getfield 12, 3), (66, .getfield 60, 3), (69, .invokevirtual 201, 3), (72, .lstore_n 1, 1), (73, .iinc 4 1, 3), (76, .goto (-35), 3), (79, .iinc 3 1, 3), (82, .goto (-49), 3), (85, .aload_n 0, 1), (86, .getfield 42, 3), (89, .getfield 162, 3), (92, .ifCond .ne 5, 3), (95, .lload_n 1, 1), (96, .lreturn, 1), (97, .iconst 0, 1), (98, .istore_n 3, 1), (99, .iload_n 3, 1), (100, .iconst 4, 1), (101, .if_icmp .ge 25, 3), (104, .ldc2_w 196, 3), (107, .lload_n 1, 1), (108, .lmul, 1), (109, .aload_n 0, 1)]
theorem tdX7_digest_t0_ok : gz_dec cX7_digest tdX7_digest_t0 = true := by decide +kernel
theorem dX7_digest_0 : decode cX7_digest 0 = .ok (.ldc2_w 194, 3) := gz_d tdX7_digest_t0_ok 0 rfl
theorem dX7_digest_3 : decode cX7_digest 3 = .ok (.lstore_n 1, 1) := gz_d tdX7_digest_t0_ok 1 rfl
theorem dX7_digest_4 : decode cX7_digest 4 = .ok (.iconst 0, 1) := gz_d tdX7_digest_t0_ok 2 rfl
theorem dX7_digest_5 : decode cX7_digest 5 = .ok (.istore_n 3, 1) := gz_d tdX7_digest_t0_ok 3 rfl
theorem dX7_digest_6 : decode cX7_digest 6 = .ok (.iload_n 3, 1) := gz_d tdX7_digest_t0_ok 4 rfl
theorem dX7_digest_7 : decode cX7_digest 7 = .ok (.bipush 7, 2) := gz_d tdX7_digest_t0_ok 5 rfl
theorem dX7_digest_9 : decode cX7_digest 9 = .ok (.if_icmp .ge 22, 3) := gz_d tdX7_digest_t0_ok 6 rfl
theorem dX7_digest_12 : decode cX7_digest 12 = .ok (.ldc2_w 196, 3) := gz_d tdX7_digest_t0_ok 7 rfl
theorem dX7_digest_15 : decode cX7_digest 15 = .ok (.lload_n 1, 1) := gz_d tdX7_digest_t0_ok 8 rfl
theorem dX7_digest_16 : decode cX7_digest 16 = .ok (.lmul, 1) := gz_d tdX7_digest_t0_ok 9 rfl
theorem dX7_digest_17 : decode cX7_digest 17 = .ok (.aload_n 0, 1) := gz_d tdX7_digest_t0_ok 10 rfl
theorem dX7_digest_18 : decode cX7_digest 18 = .ok (.iload_n 3, 1) := gz_d tdX7_digest_t0_ok 11 rfl
theorem dX7_digest_19 : decode cX7_digest 19 = .ok (.invokevirtual 198, 3) := gz_d tdX7_digest_t0_ok 12 rfl
theorem dX7_digest_22 : decode cX7_digest 22 = .ok (.i2l, 1) := gz_d tdX7_digest_t0_ok 13 rfl
theorem dX7_digest_23 : decode cX7_digest 23 = .ok (.ladd, 1) := gz_d tdX7_digest_t0_ok 14 rfl
theorem dX7_digest_24 : decode cX7_digest 24 = .ok (.lstore_n 1, 1) := gz_d tdX7_digest_t0_ok 15 rfl
theorem dX7_digest_25 : decode cX7_digest 25 = .ok (.iinc 3 1, 3) := gz_d tdX7_digest_t0_ok 16 rfl
theorem dX7_digest_28 : decode cX7_digest 28 = .ok (.goto (-22), 3) := gz_d tdX7_digest_t0_ok 17 rfl
theorem dX7_digest_31 : decode cX7_digest 31 = .ok (.iconst 0, 1) := gz_d tdX7_digest_t0_ok 18 rfl
theorem dX7_digest_32 : decode cX7_digest 32 = .ok (.istore_n 3, 1) := gz_d tdX7_digest_t0_ok 19 rfl
theorem dX7_digest_33 : decode cX7_digest 33 = .ok (.iload_n 3, 1) := gz_d tdX7_digest_t0_ok 20 rfl
theorem dX7_digest_34 : decode cX7_digest 34 = .ok (.iconst 4, 1) := gz_d tdX7_digest_t0_ok 21 rfl
theorem dX7_digest_35 : decode cX7_digest 35 = .ok (.if_icmp .ge 50, 3) := gz_d tdX7_digest_t0_ok 22 rfl
theorem dX7_digest_38 : decode cX7_digest 38 = .ok (.iconst 0, 1) := gz_d tdX7_digest_t0_ok 23 rfl
theorem dX7_digest_39 : decode cX7_digest 39 = .ok (.istore 4, 2) := gz_d tdX7_digest_t0_ok 24 rfl
theorem dX7_digest_41 : decode cX7_digest 41 = .ok (.iload 4, 2) := gz_d tdX7_digest_t0_ok 25 rfl
theorem dX7_digest_43 : decode cX7_digest 43 = .ok (.iconst 2, 1) := gz_d tdX7_digest_t0_ok 26 rfl
theorem dX7_digest_44 : decode cX7_digest 44 = .ok (.if_icmp .ge 35, 3) := gz_d tdX7_digest_t0_ok 27 rfl
theorem dX7_digest_47 : decode cX7_digest 47 = .ok (.aload_n 0, 1) := gz_d tdX7_digest_t0_ok 28 rfl
theorem dX7_digest_48 : decode cX7_digest 48 = .ok (.getfield 19, 3) := gz_d tdX7_digest_t0_ok 29 rfl
theorem dX7_digest_51 : decode cX7_digest 51 = .ok (.lload_n 1, 1) := gz_d tdX7_digest_t0_ok 30 rfl
theorem dX7_digest_52 : decode cX7_digest 52 = .ok (.iload_n 3, 1) := gz_d tdX7_digest_t0_ok 31 rfl
theorem dX7_digest_53 : decode cX7_digest 53 = .ok (.aload_n 0, 1) := gz_d tdX7_digest_t0_ok 32 rfl
theorem dX7_digest_54 : decode cX7_digest 54 = .ok (.getfield 12, 3) := gz_d tdX7_digest_t0_ok 33 rfl
theorem dX7_digest_57 : decode cX7_digest 57 = .ok (.iload 4, 2) := gz_d tdX7_digest_t0_ok 34 rfl
theorem dX7_digest_59 : decode cX7_digest 59 = .ok (.invokevirtual 68, 3) := gz_d tdX7_digest_t0_ok 35 rfl
theorem dX7_digest_62 : decode cX7_digest 62 = .ok (.aload_n 0, 1) := gz_d tdX7_digest_t0_ok 36 rfl
theorem dX7_digest_63 : decode cX7_digest 63 = .ok (.getfield 12, 3) := gz_d tdX7_digest_t0_ok 37 rfl
theorem dX7_digest_66 : decode cX7_digest 66 = .ok (.getfield 60, 3) := gz_d tdX7_digest_t0_ok 38 rfl
theorem dX7_digest_69 : decode cX7_digest 69 = .ok (.invokevirtual 201, 3) := gz_d tdX7_digest_t0_ok 39 rfl
theorem dX7_digest_72 : decode cX7_digest 72 = .ok (.lstore_n 1, 1) := gz_d tdX7_digest_t0_ok 40 rfl
theorem dX7_digest_73 : decode cX7_digest 73 = .ok (.iinc 4 1, 3) := gz_d tdX7_digest_t0_ok 41 rfl
theorem dX7_digest_76 : decode cX7_digest 76 = .ok (.goto (-35), 3) := gz_d tdX7_digest_t0_ok 42 rfl
theorem dX7_digest_79 : decode cX7_digest 79 = .ok (.iinc 3 1, 3) := gz_d tdX7_digest_t0_ok 43 rfl
theorem dX7_digest_82 : decode cX7_digest 82 = .ok (.goto (-49), 3) := gz_d tdX7_digest_t0_ok 44 rfl
theorem dX7_digest_85 : decode cX7_digest 85 = .ok (.aload_n 0, 1) := gz_d tdX7_digest_t0_ok 45 rfl
theorem dX7_digest_86 : decode cX7_digest 86 = .ok (.getfield 42, 3) := gz_d tdX7_digest_t0_ok 46 rfl
theorem dX7_digest_89 : decode cX7_digest 89 = .ok (.getfield 162, 3) := gz_d tdX7_digest_t0_ok 47 rfl
theorem dX7_digest_92 : decode cX7_digest 92 = .ok (.ifCond .ne 5, 3) := gz_d tdX7_digest_t0_ok 48 rfl
theorem dX7_digest_95 : decode cX7_digest 95 = .ok (.lload_n 1, 1) := gz_d tdX7_digest_t0_ok 49 rfl
theorem dX7_digest_96 : decode cX7_digest 96 = .ok (.lreturn, 1) := gz_d tdX7_digest_t0_ok 50 rfl
theorem dX7_digest_97 : decode cX7_digest 97 = .ok (.iconst 0, 1) := gz_d tdX7_digest_t0_ok 51 rfl
theorem dX7_digest_98 : decode cX7_digest 98 = .ok (.istore_n 3, 1) := gz_d tdX7_digest_t0_ok 52 rfl
theorem dX7_digest_99 : decode cX7_digest 99 = .ok (.iload_n 3, 1) := gz_d tdX7_digest_t0_ok 53 rfl
theorem dX7_digest_100 : decode cX7_digest 100 = .ok (.iconst 4, 1) := gz_d tdX7_digest_t0_ok 54 rfl
theorem dX7_digest_101 : decode cX7_digest 101 = .ok (.if_icmp .ge 25, 3) := gz_d tdX7_digest_t0_ok 55 rfl
theorem dX7_digest_104 : decode cX7_digest 104 = .ok (.ldc2_w 196, 3) := gz_d tdX7_digest_t0_ok 56 rfl
theorem dX7_digest_107 : decode cX7_digest 107 = .ok (.lload_n 1, 1) := gz_d tdX7_digest_t0_ok 57 rfl
theorem dX7_digest_108 : decode cX7_digest 108 = .ok (.lmul, 1) := gz_d tdX7_digest_t0_ok 58 rfl
theorem dX7_digest_109 : decode cX7_digest 109 = .ok (.aload_n 0, 1) := gz_d tdX7_digest_t0_ok 59 rfl
def tdX7_digest_t1 : List (Nat × Instr × Nat) := [(110, .getfield 42, 3), (113, .iload_n 3, 1), (114, .invokevirtual 182, 3), (117, .i2l, 1), (118, .ladd, 1), (119, .lstore_n 1, 1), (120, .iinc 3 1, 3), (123, .goto (-24), 3), (126, .ldc2_w 196, 3), (129, .lload_n 1, 1), (130, .lmul, 1), (131, .aload_n 0, 1), (132, .getfield 42, 3), (135, .iconst 0, 1), (136, .invokevirtual 159, 3), (139, .i2l, 1), (140, .ladd, 1), (141, .lstore_n 1, 1), (142, .ldc2_w 196, 3), (145, .lload_n 1, 1), (146, .lmul, 1), (147, .aload_n 0, 1), (148, .getfield 42, 3), (151, .iconst 1, 1), (152, .invokevirtual 159, 3), (155, .i2l, 1), (156, .ladd, 1), (157, .lreturn, 1)]
theorem tdX7_digest_t1_ok : gz_dec cX7_digest tdX7_digest_t1 = true := by decide +kernel
theorem dX7_digest_110 : decode cX7_digest 110 = .ok (.getfield 42, 3) := gz_d tdX7_digest_t1_ok 0 rfl
theorem dX7_digest_113 : decode cX7_digest 113 = .ok (.iload_n 3, 1) := gz_d tdX7_digest_t1_ok 1 rfl
theorem dX7_digest_114 : decode cX7_digest 114 = .ok (.invokevirtual 182, 3) := gz_d tdX7_digest_t1_ok 2 rfl
theorem dX7_digest_117 : decode cX7_digest 117 = .ok (.i2l, 1) := gz_d tdX7_digest_t1_ok 3 rfl
theorem dX7_digest_118 : decode cX7_digest 118 = .ok (.ladd, 1) := gz_d tdX7_digest_t1_ok 4 rfl
theorem dX7_digest_119 : decode cX7_digest 119 = .ok (.lstore_n 1, 1) := gz_d tdX7_digest_t1_ok 5 rfl
theorem dX7_digest_120 : decode cX7_digest 120 = .ok (.iinc 3 1, 3) := gz_d tdX7_digest_t1_ok 6 rfl
theorem dX7_digest_123 : decode cX7_digest 123 = .ok (.goto (-24), 3) := gz_d tdX7_digest_t1_ok 7 rfl
theorem dX7_digest_126 : decode cX7_digest 126 = .ok (.ldc2_w 196, 3) := gz_d tdX7_digest_t1_ok 8 rfl
theorem dX7_digest_129 : decode cX7_digest 129 = .ok (.lload_n 1, 1) := gz_d tdX7_digest_t1_ok 9 rfl
theorem dX7_digest_130 : decode cX7_digest 130 = .ok (.lmul, 1) := gz_d tdX7_digest_t1_ok 10 rfl
theorem dX7_digest_131 : decode cX7_digest 131 = .ok (.aload_n 0, 1) := gz_d tdX7_digest_t1_ok 11 rfl
theorem dX7_digest_132 : decode cX7_digest 132 = .ok (.getfield 42, 3) := gz_d tdX7_digest_t1_ok 12 rfl
theorem dX7_digest_135 : decode cX7_digest 135 = .ok (.iconst 0, 1) := gz_d tdX7_digest_t1_ok 13 rfl
theorem dX7_digest_136 : decode cX7_digest 136 = .ok (.invokevirtual 159, 3) := gz_d tdX7_digest_t1_ok 14 rfl
theorem dX7_digest_139 : decode cX7_digest 139 = .ok (.i2l, 1) := gz_d tdX7_digest_t1_ok 15 rfl
theorem dX7_digest_140 : decode cX7_digest 140 = .ok (.ladd, 1) := gz_d tdX7_digest_t1_ok 16 rfl
theorem dX7_digest_141 : decode cX7_digest 141 = .ok (.lstore_n 1, 1) := gz_d tdX7_digest_t1_ok 17 rfl
theorem dX7_digest_142 : decode cX7_digest 142 = .ok (.ldc2_w 196, 3) := gz_d tdX7_digest_t1_ok 18 rfl
theorem dX7_digest_145 : decode cX7_digest 145 = .ok (.lload_n 1, 1) := gz_d tdX7_digest_t1_ok 19 rfl
theorem dX7_digest_146 : decode cX7_digest 146 = .ok (.lmul, 1) := gz_d tdX7_digest_t1_ok 20 rfl
theorem dX7_digest_147 : decode cX7_digest 147 = .ok (.aload_n 0, 1) := gz_d tdX7_digest_t1_ok 21 rfl
theorem dX7_digest_148 : decode cX7_digest 148 = .ok (.getfield 42, 3) := gz_d tdX7_digest_t1_ok 22 rfl
theorem dX7_digest_151 : decode cX7_digest 151 = .ok (.iconst 1, 1) := gz_d tdX7_digest_t1_ok 23 rfl
theorem dX7_digest_152 : decode cX7_digest 152 = .ok (.invokevirtual 159, 3) := gz_d tdX7_digest_t1_ok 24 rfl
theorem dX7_digest_155 : decode cX7_digest 155 = .ok (.i2l, 1) := gz_d tdX7_digest_t1_ok 25 rfl
theorem dX7_digest_156 : decode cX7_digest 156 = .ok (.ladd, 1) := gz_d tdX7_digest_t1_ok 26 rfl
theorem dX7_digest_157 : decode cX7_digest 157 = .ok (.lreturn, 1) := gz_d tdX7_digest_t1_ok 27 rfl
def tdX7_within_t0 : List (Nat × Instr × Nat) := [(0, .iload_n 0, 1), (1, .iload_n 1, 1), (2, .if_icmp .lt 12, 3), (5, .iload_n 0, 1), (6, .iload_n 2, 1), (7, .if_icmp .gt 7, 3), (10, .iconst 1, 1), (11, .goto 4, 3), (14, .iconst 0, 1), (15, .ireturn, 1)]
theorem tdX7_within_t0_ok : gz_dec cX7_within tdX7_within_t0 = true := by decide +kernel
theorem dX7_within_0 : decode cX7_within 0 = .ok (.iload_n 0, 1) := gz_d tdX7_within_t0_ok 0 rfl
theorem dX7_within_1 : decode cX7_within 1 = .ok (.iload_n 1, 1) := gz_d tdX7_within_t0_ok 1 rfl
theorem dX7_within_2 : decode cX7_within 2 = .ok (.if_icmp .lt 12, 3) := gz_d tdX7_within_t0_ok 2 rfl
theorem dX7_within_5 : decode cX7_within 5 = .ok (.iload_n 0, 1) := gz_d tdX7_within_t0_ok 3 rfl
theorem dX7_within_6 : decode cX7_within 6 = .ok (.iload_n 2, 1) := gz_d tdX7_within_t0_ok 4 rfl
theorem dX7_within_7 : decode cX7_within 7 = .ok (.if_icmp .gt 7, 3) := gz_d tdX7_within_t0_ok 5 rfl
theorem dX7_within_10 : decode cX7_within 10 = .ok (.iconst 1, 1) := gz_d tdX7_within_t0_ok 6 rfl
theorem dX7_within_11 : decode cX7_within 11 = .ok (.goto 4, 3) := gz_d tdX7_within_t0_ok 7 rfl
theorem dX7_within_14 : decode cX7_within 14 = .ok (.iconst 0, 1) := gz_d tdX7_within_t0_ok 8 rfl
theorem dX7_within_15 : decode cX7_within 15 = .ok (.ireturn, 1) := gz_d tdX7_within_t0_ok 9 rfl
def tdX7_isPlayer_t0 : List (Nat × Instr × Nat) := [(0, .iload_n 0, 1), (1, .iconst 0, 1), (2, .iconst 1, 1), (3, .invokestatic 50, 3), (6, .ireturn, 1)]
theorem tdX7_isPlayer_t0_ok : gz_dec cX7_isPlayer tdX7_isPlayer_t0 = true := by decide +kernel
theorem dX7_isPlayer_0 : decode cX7_isPlayer 0 = .ok (.iload_n 0, 1) := gz_d tdX7_isPlayer_t0_ok 0 rfl
theorem dX7_isPlayer_1 : decode cX7_isPlayer 1 = .ok (.iconst 0, 1) := gz_d tdX7_isPlayer_t0_ok 1 rfl
theorem dX7_isPlayer_2 : decode cX7_isPlayer 2 = .ok (.iconst 1, 1) := gz_d tdX7_isPlayer_t0_ok 2 rfl
theorem dX7_isPlayer_3 : decode cX7_isPlayer 3 = .ok (.invokestatic 50, 3) := gz_d tdX7_isPlayer_t0_ok 3 rfl
theorem dX7_isPlayer_6 : decode cX7_isPlayer 6 = .ok (.ireturn, 1) := gz_d tdX7_isPlayer_t0_ok 4 rfl
def tdX7_isPlan_t0 : List (Nat × Instr × Nat) := [(0, .iload_n 0, 1), (1, .iconst 0, 1), (2, .iconst 3, 1), (3, .invokestatic 50, 3), (6, .ireturn, 1)]
theorem tdX7_isPlan_t0_ok : gz_dec cX7_isPlan tdX7_isPlan_t0 = true := by decide +kernel
theorem dX7_isPlan_0 : decode cX7_isPlan 0 = .ok (.iload_n 0, 1) := gz_d tdX7_isPlan_t0_ok 0 rfl
theorem dX7_isPlan_1 : decode cX7_isPlan 1 = .ok (.iconst 0, 1) := gz_d tdX7_isPlan_t0_ok 1 rfl
theorem dX7_isPlan_2 : decode cX7_isPlan 2 = .ok (.iconst 3, 1) := gz_d tdX7_isPlan_t0_ok 2 rfl
theorem dX7_isPlan_3 : decode cX7_isPlan 3 = .ok (.invokestatic 50, 3) := gz_d tdX7_isPlan_t0_ok 3 rfl
theorem dX7_isPlan_6 : decode cX7_isPlan 6 = .ok (.ireturn, 1) := gz_d tdX7_isPlan_t0_ok 4 rfl
def tdX7_isHand_t0 : List (Nat × Instr × Nat) := [(0, .iload_n 1, 1), (1, .invokestatic 64, 3), (4, .ifCond .eq 28, 3), (7, .iload_n 2, 1), (8, .iconst 0, 1), (9, .aload_n 0, 1), (10, .getfield 12, 3), (13, .iload_n 1, 1), (14, .invokevirtual 68, 3), (17, .getfield 72, 3), (20, .iconst 1, 1), (21, .isub, 1), (22, .invokestatic 50, 3), (25, .ifCond .eq 7, 3), (28, .iconst 1, 1), (29, .goto 4, 3), (32, .iconst 0, 1), (33, .ireturn, 1)]
theorem tdX7_isHand_t0_ok : gz_dec cX7_isHand tdX7_isHand_t0 = true := by decide +kernel
theorem dX7_isHand_0 : decode cX7_isHand 0 = .ok (.iload_n 1, 1) := gz_d tdX7_isHand_t0_ok 0 rfl
theorem dX7_isHand_1 : decode cX7_isHand 1 = .ok (.invokestatic 64, 3) := gz_d tdX7_isHand_t0_ok 1 rfl
theorem dX7_isHand_4 : decode cX7_isHand 4 = .ok (.ifCond .eq 28, 3) := gz_d tdX7_isHand_t0_ok 2 rfl
theorem dX7_isHand_7 : decode cX7_isHand 7 = .ok (.iload_n 2, 1) := gz_d tdX7_isHand_t0_ok 3 rfl
theorem dX7_isHand_8 : decode cX7_isHand 8 = .ok (.iconst 0, 1) := gz_d tdX7_isHand_t0_ok 4 rfl
theorem dX7_isHand_9 : decode cX7_isHand 9 = .ok (.aload_n 0, 1) := gz_d tdX7_isHand_t0_ok 5 rfl
theorem dX7_isHand_10 : decode cX7_isHand 10 = .ok (.getfield 12, 3) := gz_d tdX7_isHand_t0_ok 6 rfl
theorem dX7_isHand_13 : decode cX7_isHand 13 = .ok (.iload_n 1, 1) := gz_d tdX7_isHand_t0_ok 7 rfl
theorem dX7_isHand_14 : decode cX7_isHand 14 = .ok (.invokevirtual 68, 3) := gz_d tdX7_isHand_t0_ok 8 rfl
theorem dX7_isHand_17 : decode cX7_isHand 17 = .ok (.getfield 72, 3) := gz_d tdX7_isHand_t0_ok 9 rfl
theorem dX7_isHand_20 : decode cX7_isHand 20 = .ok (.iconst 1, 1) := gz_d tdX7_isHand_t0_ok 10 rfl
theorem dX7_isHand_21 : decode cX7_isHand 21 = .ok (.isub, 1) := gz_d tdX7_isHand_t0_ok 11 rfl
theorem dX7_isHand_22 : decode cX7_isHand 22 = .ok (.invokestatic 50, 3) := gz_d tdX7_isHand_t0_ok 12 rfl
theorem dX7_isHand_25 : decode cX7_isHand 25 = .ok (.ifCond .eq 7, 3) := gz_d tdX7_isHand_t0_ok 13 rfl
theorem dX7_isHand_28 : decode cX7_isHand 28 = .ok (.iconst 1, 1) := gz_d tdX7_isHand_t0_ok 14 rfl
theorem dX7_isHand_29 : decode cX7_isHand 29 = .ok (.goto 4, 3) := gz_d tdX7_isHand_t0_ok 15 rfl
theorem dX7_isHand_32 : decode cX7_isHand 32 = .ok (.iconst 0, 1) := gz_d tdX7_isHand_t0_ok 16 rfl
theorem dX7_isHand_33 : decode cX7_isHand 33 = .ok (.ireturn, 1) := gz_d tdX7_isHand_t0_ok 17 rfl
def tdX7_isBid_t0 : List (Nat × Instr × Nat) := [(0, .iload_n 1, 1), (1, .iconst 0, 1), (2, .aload_n 0, 1), (3, .getfield 12, 3), (6, .getfield 60, 3), (9, .iconst 1, 1), (10, .isub, 1), (11, .invokestatic 50, 3), (14, .ireturn, 1)]
theorem tdX7_isBid_t0_ok : gz_dec cX7_isBid tdX7_isBid_t0 = true := by decide +kernel
theorem dX7_isBid_0 : decode cX7_isBid 0 = .ok (.iload_n 1, 1) := gz_d tdX7_isBid_t0_ok 0 rfl
theorem dX7_isBid_1 : decode cX7_isBid 1 = .ok (.iconst 0, 1) := gz_d tdX7_isBid_t0_ok 1 rfl
theorem dX7_isBid_2 : decode cX7_isBid 2 = .ok (.aload_n 0, 1) := gz_d tdX7_isBid_t0_ok 2 rfl
theorem dX7_isBid_3 : decode cX7_isBid 3 = .ok (.getfield 12, 3) := gz_d tdX7_isBid_t0_ok 3 rfl
theorem dX7_isBid_6 : decode cX7_isBid 6 = .ok (.getfield 60, 3) := gz_d tdX7_isBid_t0_ok 4 rfl
theorem dX7_isBid_9 : decode cX7_isBid 9 = .ok (.iconst 1, 1) := gz_d tdX7_isBid_t0_ok 5 rfl
theorem dX7_isBid_10 : decode cX7_isBid 10 = .ok (.isub, 1) := gz_d tdX7_isBid_t0_ok 6 rfl
theorem dX7_isBid_11 : decode cX7_isBid 11 = .ok (.invokestatic 50, 3) := gz_d tdX7_isBid_t0_ok 7 rfl
theorem dX7_isBid_14 : decode cX7_isBid 14 = .ok (.ireturn, 1) := gz_d tdX7_isBid_t0_ok 8 rfl
def tdX7_isBidOrNone_t0 : List (Nat × Instr × Nat) := [(0, .iload_n 1, 1), (1, .iconst (-1), 1), (2, .if_icmp .eq 11, 3), (5, .aload_n 0, 1), (6, .iload_n 1, 1), (7, .invokevirtual 92, 3), (10, .ifCond .eq 7, 3), (13, .iconst 1, 1), (14, .goto 4, 3), (17, .iconst 0, 1), (18, .ireturn, 1)]
theorem tdX7_isBidOrNone_t0_ok : gz_dec cX7_isBidOrNone tdX7_isBidOrNone_t0 = true := by decide +kernel
theorem dX7_isBidOrNone_0 : decode cX7_isBidOrNone 0 = .ok (.iload_n 1, 1) := gz_d tdX7_isBidOrNone_t0_ok 0 rfl
theorem dX7_isBidOrNone_1 : decode cX7_isBidOrNone 1 = .ok (.iconst (-1), 1) := gz_d tdX7_isBidOrNone_t0_ok 1 rfl
theorem dX7_isBidOrNone_2 : decode cX7_isBidOrNone 2 = .ok (.if_icmp .eq 11, 3) := gz_d tdX7_isBidOrNone_t0_ok 2 rfl
theorem dX7_isBidOrNone_5 : decode cX7_isBidOrNone 5 = .ok (.aload_n 0, 1) := gz_d tdX7_isBidOrNone_t0_ok 3 rfl
theorem dX7_isBidOrNone_6 : decode cX7_isBidOrNone 6 = .ok (.iload_n 1, 1) := gz_d tdX7_isBidOrNone_t0_ok 4 rfl
theorem dX7_isBidOrNone_7 : decode cX7_isBidOrNone 7 = .ok (.invokevirtual 92, 3) := gz_d tdX7_isBidOrNone_t0_ok 5 rfl
theorem dX7_isBidOrNone_10 : decode cX7_isBidOrNone 10 = .ok (.ifCond .eq 7, 3) := gz_d tdX7_isBidOrNone_t0_ok 6 rfl
theorem dX7_isBidOrNone_13 : decode cX7_isBidOrNone 13 = .ok (.iconst 1, 1) := gz_d tdX7_isBidOrNone_t0_ok 7 rfl
theorem dX7_isBidOrNone_14 : decode cX7_isBidOrNone 14 = .ok (.goto 4, 3) := gz_d tdX7_isBidOrNone_t0_ok 8 rfl
theorem dX7_isBidOrNone_17 : decode cX7_isBidOrNone 17 = .ok (.iconst 0, 1) := gz_d tdX7_isBidOrNone_t0_ok 9 rfl
theorem dX7_isBidOrNone_18 : decode cX7_isBidOrNone 18 = .ok (.ireturn, 1) := gz_d tdX7_isBidOrNone_t0_ok 10 rfl
def tdX7_mayFollow_t0 : List (Nat × Instr × Nat) := [(0, .iload_n 1, 1), (1, .iconst (-1), 1), (2, .if_icmp .ne 16, 3), (5, .iload_n 0, 1), (6, .iconst (-1), 1), (7, .if_icmp .eq 7, 3), (10, .iconst 1, 1), (11, .goto 17, 3), (14, .iconst 0, 1), (15, .goto 13, 3), (18, .iload_n 1, 1), (19, .iload_n 0, 1), (20, .if_icmp .le 7, 3), (23, .iconst 1, 1), (24, .goto 4, 3), (27, .iconst 0, 1), (28, .ireturn, 1)]
theorem tdX7_mayFollow_t0_ok : gz_dec cX7_mayFollow tdX7_mayFollow_t0 = true := by decide +kernel
theorem dX7_mayFollow_0 : decode cX7_mayFollow 0 = .ok (.iload_n 1, 1) := gz_d tdX7_mayFollow_t0_ok 0 rfl
theorem dX7_mayFollow_1 : decode cX7_mayFollow 1 = .ok (.iconst (-1), 1) := gz_d tdX7_mayFollow_t0_ok 1 rfl
theorem dX7_mayFollow_2 : decode cX7_mayFollow 2 = .ok (.if_icmp .ne 16, 3) := gz_d tdX7_mayFollow_t0_ok 2 rfl
theorem dX7_mayFollow_5 : decode cX7_mayFollow 5 = .ok (.iload_n 0, 1) := gz_d tdX7_mayFollow_t0_ok 3 rfl
theorem dX7_mayFollow_6 : decode cX7_mayFollow 6 = .ok (.iconst (-1), 1) := gz_d tdX7_mayFollow_t0_ok 4 rfl
theorem dX7_mayFollow_7 : decode cX7_mayFollow 7 = .ok (.if_icmp .eq 7, 3) := gz_d tdX7_mayFollow_t0_ok 5 rfl
theorem dX7_mayFollow_10 : decode cX7_mayFollow 10 = .ok (.iconst 1, 1) := gz_d tdX7_mayFollow_t0_ok 6 rfl
theorem dX7_mayFollow_11 : decode cX7_mayFollow 11 = .ok (.goto 17, 3) := gz_d tdX7_mayFollow_t0_ok 7 rfl
theorem dX7_mayFollow_14 : decode cX7_mayFollow 14 = .ok (.iconst 0, 1) := gz_d tdX7_mayFollow_t0_ok 8 rfl
theorem dX7_mayFollow_15 : decode cX7_mayFollow 15 = .ok (.goto 13, 3) := gz_d tdX7_mayFollow_t0_ok 9 rfl
theorem dX7_mayFollow_18 : decode cX7_mayFollow 18 = .ok (.iload_n 1, 1) := gz_d tdX7_mayFollow_t0_ok 10 rfl
theorem dX7_mayFollow_19 : decode cX7_mayFollow 19 = .ok (.iload_n 0, 1) := gz_d tdX7_mayFollow_t0_ok 11 rfl
theorem dX7_mayFollow_20 : decode cX7_mayFollow 20 = .ok (.if_icmp .le 7, 3) := gz_d tdX7_mayFollow_t0_ok 12 rfl
theorem dX7_mayFollow_23 : decode cX7_mayFollow 23 = .ok (.iconst 1, 1) := gz_d tdX7_mayFollow_t0_ok 13 rfl
theorem dX7_mayFollow_24 : decode cX7_mayFollow 24 = .ok (.goto 4, 3) := gz_d tdX7_mayFollow_t0_ok 14 rfl
theorem dX7_mayFollow_27 : decode cX7_mayFollow 27 = .ok (.iconst 0, 1) := gz_d tdX7_mayFollow_t0_ok 15 rfl
theorem dX7_mayFollow_28 : decode cX7_mayFollow 28 = .ok (.ireturn, 1) := gz_d tdX7_mayFollow_t0_ok 16 rfl
def tdX7_at_t0 : List (Nat × Instr × Nat) := [(0, .iload_n 1, 1), (1, .ifCond .lt 15, 3), (4, .iload_n 1, 1), (5, .aload_n 0, 1), (6, .arraylength, 1), (7, .if_icmp .ge 9, 3), (10, .aload_n 0, 1), (11, .iload_n 1, 1), (12, .iaload, 1), (13, .goto 4, 3), (16, .iconst 0, 1), (17, .ireturn, 1)]
theorem tdX7_at_t0_ok : gz_dec cX7_at tdX7_at_t0 = true := by decide +kernel
theorem dX7_at_0 : decode cX7_at 0 = .ok (.iload_n 1, 1) := gz_d tdX7_at_t0_ok 0 rfl
theorem dX7_at_1 : decode cX7_at 1 = .ok (.ifCond .lt 15, 3) := gz_d tdX7_at_t0_ok 1 rfl
theorem dX7_at_4 : decode cX7_at 4 = .ok (.iload_n 1, 1) := gz_d tdX7_at_t0_ok 2 rfl
theorem dX7_at_5 : decode cX7_at 5 = .ok (.aload_n 0, 1) := gz_d tdX7_at_t0_ok 3 rfl
theorem dX7_at_6 : decode cX7_at 6 = .ok (.arraylength, 1) := gz_d tdX7_at_t0_ok 4 rfl
theorem dX7_at_7 : decode cX7_at 7 = .ok (.if_icmp .ge 9, 3) := gz_d tdX7_at_t0_ok 5 rfl
theorem dX7_at_10 : decode cX7_at 10 = .ok (.aload_n 0, 1) := gz_d tdX7_at_t0_ok 6 rfl
theorem dX7_at_11 : decode cX7_at 11 = .ok (.iload_n 1, 1) := gz_d tdX7_at_t0_ok 7 rfl
theorem dX7_at_12 : decode cX7_at 12 = .ok (.iaload, 1) := gz_d tdX7_at_t0_ok 8 rfl
theorem dX7_at_13 : decode cX7_at 13 = .ok (.goto 4, 3) := gz_d tdX7_at_t0_ok 9 rfl
theorem dX7_at_16 : decode cX7_at 16 = .ok (.iconst 0, 1) := gz_d tdX7_at_t0_ok 10 rfl
theorem dX7_at_17 : decode cX7_at 17 = .ok (.ireturn, 1) := gz_d tdX7_at_t0_ok 11 rfl
def tdX7_put_t0 : List (Nat × Instr × Nat) := [(0, .iload_n 1, 1), (1, .ifCond .lt 13, 3), (4, .iload_n 1, 1), (5, .aload_n 0, 1), (6, .arraylength, 1), (7, .if_icmp .ge 7, 3), (10, .aload_n 0, 1), (11, .iload_n 1, 1), (12, .iload_n 2, 1), (13, .iastore, 1), (14, .return_, 1)]
theorem tdX7_put_t0_ok : gz_dec cX7_put tdX7_put_t0 = true := by decide +kernel
theorem dX7_put_0 : decode cX7_put 0 = .ok (.iload_n 1, 1) := gz_d tdX7_put_t0_ok 0 rfl
theorem dX7_put_1 : decode cX7_put 1 = .ok (.ifCond .lt 13, 3) := gz_d tdX7_put_t0_ok 1 rfl
theorem dX7_put_4 : decode cX7_put 4 = .ok (.iload_n 1, 1) := gz_d tdX7_put_t0_ok 2 rfl
theorem dX7_put_5 : decode cX7_put 5 = .ok (.aload_n 0, 1) := gz_d tdX7_put_t0_ok 3 rfl
theorem dX7_put_6 : decode cX7_put 6 = .ok (.arraylength, 1) := gz_d tdX7_put_t0_ok 4 rfl
theorem dX7_put_7 : decode cX7_put 7 = .ok (.if_icmp .ge 7, 3) := gz_d tdX7_put_t0_ok 5 rfl
theorem dX7_put_10 : decode cX7_put 10 = .ok (.aload_n 0, 1) := gz_d tdX7_put_t0_ok 6 rfl
theorem dX7_put_11 : decode cX7_put 11 = .ok (.iload_n 1, 1) := gz_d tdX7_put_t0_ok 7 rfl
theorem dX7_put_12 : decode cX7_put 12 = .ok (.iload_n 2, 1) := gz_d tdX7_put_t0_ok 8 rfl
theorem dX7_put_13 : decode cX7_put 13 = .ok (.iastore, 1) := gz_d tdX7_put_t0_ok 9 rfl
theorem dX7_put_14 : decode cX7_put 14 = .ok (.return_, 1) := gz_d tdX7_put_t0_ok 10 rfl
def tdX7_realAt_t0 : List (Nat × Instr × Nat) := [(0, .iload_n 1, 1), (1, .ifCond .lt 15, 3), (4, .iload_n 1, 1), (5, .aload_n 0, 1), (6, .arraylength, 1), (7, .if_icmp .ge 9, 3), (10, .aload_n 0, 1), (11, .iload_n 1, 1), (12, .daload, 1), (13, .goto 4, 3), (16, .dconst 0, 1), (17, .dreturn, 1)]
theorem tdX7_realAt_t0_ok : gz_dec cX7_realAt tdX7_realAt_t0 = true := by decide +kernel
theorem dX7_realAt_0 : decode cX7_realAt 0 = .ok (.iload_n 1, 1) := gz_d tdX7_realAt_t0_ok 0 rfl
theorem dX7_realAt_1 : decode cX7_realAt 1 = .ok (.ifCond .lt 15, 3) := gz_d tdX7_realAt_t0_ok 1 rfl
theorem dX7_realAt_4 : decode cX7_realAt 4 = .ok (.iload_n 1, 1) := gz_d tdX7_realAt_t0_ok 2 rfl
theorem dX7_realAt_5 : decode cX7_realAt 5 = .ok (.aload_n 0, 1) := gz_d tdX7_realAt_t0_ok 3 rfl
theorem dX7_realAt_6 : decode cX7_realAt 6 = .ok (.arraylength, 1) := gz_d tdX7_realAt_t0_ok 4 rfl
theorem dX7_realAt_7 : decode cX7_realAt 7 = .ok (.if_icmp .ge 9, 3) := gz_d tdX7_realAt_t0_ok 5 rfl
theorem dX7_realAt_10 : decode cX7_realAt 10 = .ok (.aload_n 0, 1) := gz_d tdX7_realAt_t0_ok 6 rfl
theorem dX7_realAt_11 : decode cX7_realAt 11 = .ok (.iload_n 1, 1) := gz_d tdX7_realAt_t0_ok 7 rfl
theorem dX7_realAt_12 : decode cX7_realAt 12 = .ok (.daload, 1) := gz_d tdX7_realAt_t0_ok 8 rfl
theorem dX7_realAt_13 : decode cX7_realAt 13 = .ok (.goto 4, 3) := gz_d tdX7_realAt_t0_ok 9 rfl
theorem dX7_realAt_16 : decode cX7_realAt 16 = .ok (.dconst 0, 1) := gz_d tdX7_realAt_t0_ok 10 rfl
theorem dX7_realAt_17 : decode cX7_realAt 17 = .ok (.dreturn, 1) := gz_d tdX7_realAt_t0_ok 11 rfl
def tdX7_putReal_t0 : List (Nat × Instr × Nat) := [(0, .iload_n 1, 1), (1, .ifCond .lt 13, 3), (4, .iload_n 1, 1), (5, .aload_n 0, 1), (6, .arraylength, 1), (7, .if_icmp .ge 7, 3), (10, .aload_n 0, 1), (11, .iload_n 1, 1), (12, .dload_n 2, 1), (13, .dastore, 1), (14, .return_, 1)]
theorem tdX7_putReal_t0_ok : gz_dec cX7_putReal tdX7_putReal_t0 = true := by decide +kernel
theorem dX7_putReal_0 : decode cX7_putReal 0 = .ok (.iload_n 1, 1) := gz_d tdX7_putReal_t0_ok 0 rfl
theorem dX7_putReal_1 : decode cX7_putReal 1 = .ok (.ifCond .lt 13, 3) := gz_d tdX7_putReal_t0_ok 1 rfl
theorem dX7_putReal_4 : decode cX7_putReal 4 = .ok (.iload_n 1, 1) := gz_d tdX7_putReal_t0_ok 2 rfl
theorem dX7_putReal_5 : decode cX7_putReal 5 = .ok (.aload_n 0, 1) := gz_d tdX7_putReal_t0_ok 3 rfl
theorem dX7_putReal_6 : decode cX7_putReal 6 = .ok (.arraylength, 1) := gz_d tdX7_putReal_t0_ok 4 rfl
theorem dX7_putReal_7 : decode cX7_putReal 7 = .ok (.if_icmp .ge 7, 3) := gz_d tdX7_putReal_t0_ok 5 rfl
theorem dX7_putReal_10 : decode cX7_putReal 10 = .ok (.aload_n 0, 1) := gz_d tdX7_putReal_t0_ok 6 rfl
theorem dX7_putReal_11 : decode cX7_putReal 11 = .ok (.iload_n 1, 1) := gz_d tdX7_putReal_t0_ok 7 rfl
theorem dX7_putReal_12 : decode cX7_putReal 12 = .ok (.dload_n 2, 1) := gz_d tdX7_putReal_t0_ok 8 rfl
theorem dX7_putReal_13 : decode cX7_putReal 13 = .ok (.dastore, 1) := gz_d tdX7_putReal_t0_ok 9 rfl
theorem dX7_putReal_14 : decode cX7_putReal 14 = .ok (.return_, 1) := gz_d tdX7_putReal_t0_ok 10 rfl
def tdX7_cut_t0 : List (Nat × Instr × Nat) := [(0, .iload_n 1, 1), (1, .ifCond .le 9, 3), (4, .iload_n 0, 1), (5, .iload_n 1, 1), (6, .idiv, 1), (7, .goto 4, 3), (10, .iconst 0, 1), (11, .ireturn, 1)]
theorem tdX7_cut_t0_ok : gz_dec cX7_cut tdX7_cut_t0 = true := by decide +kernel
theorem dX7_cut_0 : decode cX7_cut 0 = .ok (.iload_n 1, 1) := gz_d tdX7_cut_t0_ok 0 rfl
theorem dX7_cut_1 : decode cX7_cut 1 = .ok (.ifCond .le 9, 3) := gz_d tdX7_cut_t0_ok 1 rfl
theorem dX7_cut_4 : decode cX7_cut 4 = .ok (.iload_n 0, 1) := gz_d tdX7_cut_t0_ok 2 rfl
theorem dX7_cut_5 : decode cX7_cut 5 = .ok (.iload_n 1, 1) := gz_d tdX7_cut_t0_ok 3 rfl
theorem dX7_cut_6 : decode cX7_cut 6 = .ok (.idiv, 1) := gz_d tdX7_cut_t0_ok 4 rfl
theorem dX7_cut_7 : decode cX7_cut 7 = .ok (.goto 4, 3) := gz_d tdX7_cut_t0_ok 5 rfl
theorem dX7_cut_10 : decode cX7_cut 10 = .ok (.iconst 0, 1) := gz_d tdX7_cut_t0_ok 6 rfl
theorem dX7_cut_11 : decode cX7_cut 11 = .ok (.ireturn, 1) := gz_d tdX7_cut_t0_ok 7 rfl
def tdX7_leftOver_t0 : List (Nat × Instr × Nat) := [(0, .iload_n 1, 1), (1, .ifCond .le 9, 3), (4, .iload_n 0, 1), (5, .iload_n 1, 1), (6, .irem, 1), (7, .goto 4, 3), (10, .iconst 0, 1), (11, .ireturn, 1)]
theorem tdX7_leftOver_t0_ok : gz_dec cX7_leftOver tdX7_leftOver_t0 = true := by decide +kernel
theorem dX7_leftOver_0 : decode cX7_leftOver 0 = .ok (.iload_n 1, 1) := gz_d tdX7_leftOver_t0_ok 0 rfl
theorem dX7_leftOver_1 : decode cX7_leftOver 1 = .ok (.ifCond .le 9, 3) := gz_d tdX7_leftOver_t0_ok 1 rfl
theorem dX7_leftOver_4 : decode cX7_leftOver 4 = .ok (.iload_n 0, 1) := gz_d tdX7_leftOver_t0_ok 2 rfl
theorem dX7_leftOver_5 : decode cX7_leftOver 5 = .ok (.iload_n 1, 1) := gz_d tdX7_leftOver_t0_ok 3 rfl
theorem dX7_leftOver_6 : decode cX7_leftOver 6 = .ok (.irem, 1) := gz_d tdX7_leftOver_t0_ok 4 rfl
theorem dX7_leftOver_7 : decode cX7_leftOver 7 = .ok (.goto 4, 3) := gz_d tdX7_leftOver_t0_ok 5 rfl
theorem dX7_leftOver_10 : decode cX7_leftOver 10 = .ok (.iconst 0, 1) := gz_d tdX7_leftOver_t0_ok 6 rfl
theorem dX7_leftOver_11 : decode cX7_leftOver 11 = .ok (.ireturn, 1) := gz_d tdX7_leftOver_t0_ok 7 rfl
def tdX7_commonDivisor_t0 : List (Nat × Instr × Nat) := [(0, .iload_n 1, 1), (1, .istore_n 2, 1), (2, .iload_n 0, 1), (3, .istore_n 3, 1), (4, .iconst 0, 1), (5, .istore 4, 2), (7, .iload 4, 2), (9, .bipush 64, 2), (11, .if_icmp .ge 25, 3), (14, .iload_n 3, 1), (15, .ifCond .le 21, 3), (18, .iload_n 2, 1), (19, .iload_n 3, 1), (20, .invokestatic 205, 3), (23, .istore 5, 2), (25, .iload_n 3, 1), (26, .istore_n 2, 1), (27, .iload 5, 2), (29, .istore_n 3, 1), (30, .iinc 4 1, 3), (33, .goto (-26), 3), (36, .iload_n 2, 1), (37, .ireturn, 1)]
theorem tdX7_commonDivisor_t0_ok : gz_dec cX7_commonDivisor tdX7_commonDivisor_t0 = true := by decide +kernel
theorem dX7_commonDivisor_0 : decode cX7_commonDivisor 0 = .ok (.iload_n 1, 1) := gz_d tdX7_commonDivisor_t0_ok 0 rfl
theorem dX7_commonDivisor_1 : decode cX7_commonDivisor 1 = .ok (.istore_n 2, 1) := gz_d tdX7_commonDivisor_t0_ok 1 rfl
theorem dX7_commonDivisor_2 : decode cX7_commonDivisor 2 = .ok (.iload_n 0, 1) := gz_d tdX7_commonDivisor_t0_ok 2 rfl
theorem dX7_commonDivisor_3 : decode cX7_commonDivisor 3 = .ok (.istore_n 3, 1) := gz_d tdX7_commonDivisor_t0_ok 3 rfl
theorem dX7_commonDivisor_4 : decode cX7_commonDivisor 4 = .ok (.iconst 0, 1) := gz_d tdX7_commonDivisor_t0_ok 4 rfl
theorem dX7_commonDivisor_5 : decode cX7_commonDivisor 5 = .ok (.istore 4, 2) := gz_d tdX7_commonDivisor_t0_ok 5 rfl
theorem dX7_commonDivisor_7 : decode cX7_commonDivisor 7 = .ok (.iload 4, 2) := gz_d tdX7_commonDivisor_t0_ok 6 rfl
theorem dX7_commonDivisor_9 : decode cX7_commonDivisor 9 = .ok (.bipush 64, 2) := gz_d tdX7_commonDivisor_t0_ok 7 rfl
theorem dX7_commonDivisor_11 : decode cX7_commonDivisor 11 = .ok (.if_icmp .ge 25, 3) := gz_d tdX7_commonDivisor_t0_ok 8 rfl
theorem dX7_commonDivisor_14 : decode cX7_commonDivisor 14 = .ok (.iload_n 3, 1) := gz_d tdX7_commonDivisor_t0_ok 9 rfl
theorem dX7_commonDivisor_15 : decode cX7_commonDivisor 15 = .ok (.ifCond .le 21, 3) := gz_d tdX7_commonDivisor_t0_ok 10 rfl
theorem dX7_commonDivisor_18 : decode cX7_commonDivisor 18 = .ok (.iload_n 2, 1) := gz_d tdX7_commonDivisor_t0_ok 11 rfl
theorem dX7_commonDivisor_19 : decode cX7_commonDivisor 19 = .ok (.iload_n 3, 1) := gz_d tdX7_commonDivisor_t0_ok 12 rfl
theorem dX7_commonDivisor_20 : decode cX7_commonDivisor 20 = .ok (.invokestatic 205, 3) := gz_d tdX7_commonDivisor_t0_ok 13 rfl
theorem dX7_commonDivisor_23 : decode cX7_commonDivisor 23 = .ok (.istore 5, 2) := gz_d tdX7_commonDivisor_t0_ok 14 rfl
theorem dX7_commonDivisor_25 : decode cX7_commonDivisor 25 = .ok (.iload_n 3, 1) := gz_d tdX7_commonDivisor_t0_ok 15 rfl
theorem dX7_commonDivisor_26 : decode cX7_commonDivisor 26 = .ok (.istore_n 2, 1) := gz_d tdX7_commonDivisor_t0_ok 16 rfl
theorem dX7_commonDivisor_27 : decode cX7_commonDivisor 27 = .ok (.iload 5, 2) := gz_d tdX7_commonDivisor_t0_ok 17 rfl
theorem dX7_commonDivisor_29 : decode cX7_commonDivisor 29 = .ok (.istore_n 3, 1) := gz_d tdX7_commonDivisor_t0_ok 18 rfl
theorem dX7_commonDivisor_30 : decode cX7_commonDivisor 30 = .ok (.iinc 4 1, 3) := gz_d tdX7_commonDivisor_t0_ok 19 rfl
theorem dX7_commonDivisor_33 : decode cX7_commonDivisor 33 = .ok (.goto (-26), 3) := gz_d tdX7_commonDivisor_t0_ok 20 rfl
theorem dX7_commonDivisor_36 : decode cX7_commonDivisor 36 = .ok (.iload_n 2, 1) := gz_d tdX7_commonDivisor_t0_ok 21 rfl
theorem dX7_commonDivisor_37 : decode cX7_commonDivisor 37 = .ok (.ireturn, 1) := gz_d tdX7_commonDivisor_t0_ok 22 rfl
def tdX7_bitsOf_t0 : List (Nat × Instr × Nat) := [(0, .dload_n 0, 1), (1, .dconst 0, 1), (2, .dcmp .l, 1), (3, .ifCond .le 7, 3), (6, .dload_n 0, 1), (7, .goto 4, 3), (10, .dconst 0, 1), (11, .dstore_n 2, 1), (12, .ldc2_w 208, 3), (15, .lstore 4, 2), (17, .dload_n 2, 1), (18, .ldc2_w 210, 3), (21, .dcmp .l, 1), (22, .ifCond .lt 27, 3), (25, .lload 4, 2), (27, .ldc2_w 212, 3), (30, .lcmp, 1), (31, .ifCond .ge 18, 3), (34, .dload_n 2, 1), (35, .ldc2_w 210, 3), (38, .ddiv, 1), (39, .dstore_n 2, 1), (40, .lload 4, 2), (42, .lconst 1, 1), (43, .ladd, 1), (44, .lstore 4, 2), (46, .goto (-29), 3), (49, .dload_n 2, 1), (50, .dconst 1, 1), (51, .dcmp .g, 1), (52, .ifCond .ge 25, 3), (55, .lload 4, 2), (57, .lconst 1, 1), (58, .lcmp, 1), (59, .ifCond .le 18, 3), (62, .dload_n 2, 1), (63, .ldc2_w 210, 3), (66, .dmul, 1), (67, .dstore_n 2, 1), (68, .lload 4, 2), (70, .lconst 1, 1), (71, .lsub, 1), (72, .lstore 4, 2), (74, .goto (-25), 3), (77, .lload 4, 2), (79, .lconst 1, 1), (80, .lsub, 1), (81, .bipush 52, 2), (83, .lshl, 1), (84, .dload_n 2, 1), (85, .ldc2_w 214, 3), (88, .dmul, 1), (89, .d2l, 1), (90, .ladd, 1), (91, .lreturn, 1)]
theorem tdX7_bitsOf_t0_ok : gz_dec cX7_bitsOf tdX7_bitsOf_t0 = true := by decide +kernel
theorem dX7_bitsOf_0 : decode cX7_bitsOf 0 = .ok (.dload_n 0, 1) := gz_d tdX7_bitsOf_t0_ok 0 rfl
theorem dX7_bitsOf_1 : decode cX7_bitsOf 1 = .ok (.dconst 0, 1) := gz_d tdX7_bitsOf_t0_ok 1 rfl
theorem dX7_bitsOf_2 : decode cX7_bitsOf 2 = .ok (.dcmp .l, 1) := gz_d tdX7_bitsOf_t0_ok 2 rfl
theorem dX7_bitsOf_3 : decode cX7_bitsOf 3 = .ok (.ifCond .le 7, 3) := gz_d tdX7_bitsOf_t0_ok 3 rfl
theorem dX7_bitsOf_6 : decode cX7_bitsOf 6 = .ok (.dload_n 0, 1) := gz_d tdX7_bitsOf_t0_ok 4 rfl
theorem dX7_bitsOf_7 : decode cX7_bitsOf 7 = .ok (.goto 4, 3) := gz_d tdX7_bitsOf_t0_ok 5 rfl
theorem dX7_bitsOf_10 : decode cX7_bitsOf 10 = .ok (.dconst 0, 1) := gz_d tdX7_bitsOf_t0_ok 6 rfl
theorem dX7_bitsOf_11 : decode cX7_bitsOf 11 = .ok (.dstore_n 2, 1) := gz_d tdX7_bitsOf_t0_ok 7 rfl
theorem dX7_bitsOf_12 : decode cX7_bitsOf 12 = .ok (.ldc2_w 208, 3) := gz_d tdX7_bitsOf_t0_ok 8 rfl
theorem dX7_bitsOf_15 : decode cX7_bitsOf 15 = .ok (.lstore 4, 2) := gz_d tdX7_bitsOf_t0_ok 9 rfl
theorem dX7_bitsOf_17 : decode cX7_bitsOf 17 = .ok (.dload_n 2, 1) := gz_d tdX7_bitsOf_t0_ok 10 rfl
theorem dX7_bitsOf_18 : decode cX7_bitsOf 18 = .ok (.ldc2_w 210, 3) := gz_d tdX7_bitsOf_t0_ok 11 rfl
theorem dX7_bitsOf_21 : decode cX7_bitsOf 21 = .ok (.dcmp .l, 1) := gz_d tdX7_bitsOf_t0_ok 12 rfl
theorem dX7_bitsOf_22 : decode cX7_bitsOf 22 = .ok (.ifCond .lt 27, 3) := gz_d tdX7_bitsOf_t0_ok 13 rfl
theorem dX7_bitsOf_25 : decode cX7_bitsOf 25 = .ok (.lload 4, 2) := gz_d tdX7_bitsOf_t0_ok 14 rfl
theorem dX7_bitsOf_27 : decode cX7_bitsOf 27 = .ok (.ldc2_w 212, 3) := gz_d tdX7_bitsOf_t0_ok 15 rfl
theorem dX7_bitsOf_30 : decode cX7_bitsOf 30 = .ok (.lcmp, 1) := gz_d tdX7_bitsOf_t0_ok 16 rfl
theorem dX7_bitsOf_31 : decode cX7_bitsOf 31 = .ok (.ifCond .ge 18, 3) := gz_d tdX7_bitsOf_t0_ok 17 rfl
theorem dX7_bitsOf_34 : decode cX7_bitsOf 34 = .ok (.dload_n 2, 1) := gz_d tdX7_bitsOf_t0_ok 18 rfl
theorem dX7_bitsOf_35 : decode cX7_bitsOf 35 = .ok (.ldc2_w 210, 3) := gz_d tdX7_bitsOf_t0_ok 19 rfl
theorem dX7_bitsOf_38 : decode cX7_bitsOf 38 = .ok (.ddiv, 1) := gz_d tdX7_bitsOf_t0_ok 20 rfl
theorem dX7_bitsOf_39 : decode cX7_bitsOf 39 = .ok (.dstore_n 2, 1) := gz_d tdX7_bitsOf_t0_ok 21 rfl
theorem dX7_bitsOf_40 : decode cX7_bitsOf 40 = .ok (.lload 4, 2) := gz_d tdX7_bitsOf_t0_ok 22 rfl
theorem dX7_bitsOf_42 : decode cX7_bitsOf 42 = .ok (.lconst 1, 1) := gz_d tdX7_bitsOf_t0_ok 23 rfl
theorem dX7_bitsOf_43 : decode cX7_bitsOf 43 = .ok (.ladd, 1) := gz_d tdX7_bitsOf_t0_ok 24 rfl
theorem dX7_bitsOf_44 : decode cX7_bitsOf 44 = .ok (.lstore 4, 2) := gz_d tdX7_bitsOf_t0_ok 25 rfl
theorem dX7_bitsOf_46 : decode cX7_bitsOf 46 = .ok (.goto (-29), 3) := gz_d tdX7_bitsOf_t0_ok 26 rfl
theorem dX7_bitsOf_49 : decode cX7_bitsOf 49 = .ok (.dload_n 2, 1) := gz_d tdX7_bitsOf_t0_ok 27 rfl
theorem dX7_bitsOf_50 : decode cX7_bitsOf 50 = .ok (.dconst 1, 1) := gz_d tdX7_bitsOf_t0_ok 28 rfl
theorem dX7_bitsOf_51 : decode cX7_bitsOf 51 = .ok (.dcmp .g, 1) := gz_d tdX7_bitsOf_t0_ok 29 rfl
theorem dX7_bitsOf_52 : decode cX7_bitsOf 52 = .ok (.ifCond .ge 25, 3) := gz_d tdX7_bitsOf_t0_ok 30 rfl
theorem dX7_bitsOf_55 : decode cX7_bitsOf 55 = .ok (.lload 4, 2) := gz_d tdX7_bitsOf_t0_ok 31 rfl
theorem dX7_bitsOf_57 : decode cX7_bitsOf 57 = .ok (.lconst 1, 1) := gz_d tdX7_bitsOf_t0_ok 32 rfl
theorem dX7_bitsOf_58 : decode cX7_bitsOf 58 = .ok (.lcmp, 1) := gz_d tdX7_bitsOf_t0_ok 33 rfl
theorem dX7_bitsOf_59 : decode cX7_bitsOf 59 = .ok (.ifCond .le 18, 3) := gz_d tdX7_bitsOf_t0_ok 34 rfl
theorem dX7_bitsOf_62 : decode cX7_bitsOf 62 = .ok (.dload_n 2, 1) := gz_d tdX7_bitsOf_t0_ok 35 rfl
theorem dX7_bitsOf_63 : decode cX7_bitsOf 63 = .ok (.ldc2_w 210, 3) := gz_d tdX7_bitsOf_t0_ok 36 rfl
theorem dX7_bitsOf_66 : decode cX7_bitsOf 66 = .ok (.dmul, 1) := gz_d tdX7_bitsOf_t0_ok 37 rfl
theorem dX7_bitsOf_67 : decode cX7_bitsOf 67 = .ok (.dstore_n 2, 1) := gz_d tdX7_bitsOf_t0_ok 38 rfl
theorem dX7_bitsOf_68 : decode cX7_bitsOf 68 = .ok (.lload 4, 2) := gz_d tdX7_bitsOf_t0_ok 39 rfl
theorem dX7_bitsOf_70 : decode cX7_bitsOf 70 = .ok (.lconst 1, 1) := gz_d tdX7_bitsOf_t0_ok 40 rfl
theorem dX7_bitsOf_71 : decode cX7_bitsOf 71 = .ok (.lsub, 1) := gz_d tdX7_bitsOf_t0_ok 41 rfl
theorem dX7_bitsOf_72 : decode cX7_bitsOf 72 = .ok (.lstore 4, 2) := gz_d tdX7_bitsOf_t0_ok 42 rfl
theorem dX7_bitsOf_74 : decode cX7_bitsOf 74 = .ok (.goto (-25), 3) := gz_d tdX7_bitsOf_t0_ok 43 rfl
theorem dX7_bitsOf_77 : decode cX7_bitsOf 77 = .ok (.lload 4, 2) := gz_d tdX7_bitsOf_t0_ok 44 rfl
theorem dX7_bitsOf_79 : decode cX7_bitsOf 79 = .ok (.lconst 1, 1) := gz_d tdX7_bitsOf_t0_ok 45 rfl
theorem dX7_bitsOf_80 : decode cX7_bitsOf 80 = .ok (.lsub, 1) := gz_d tdX7_bitsOf_t0_ok 46 rfl
theorem dX7_bitsOf_81 : decode cX7_bitsOf 81 = .ok (.bipush 52, 2) := gz_d tdX7_bitsOf_t0_ok 47 rfl
theorem dX7_bitsOf_83 : decode cX7_bitsOf 83 = .ok (.lshl, 1) := gz_d tdX7_bitsOf_t0_ok 48 rfl
theorem dX7_bitsOf_84 : decode cX7_bitsOf 84 = .ok (.dload_n 2, 1) := gz_d tdX7_bitsOf_t0_ok 49 rfl
theorem dX7_bitsOf_85 : decode cX7_bitsOf 85 = .ok (.ldc2_w 214, 3) := gz_d tdX7_bitsOf_t0_ok 50 rfl
theorem dX7_bitsOf_88 : decode cX7_bitsOf 88 = .ok (.dmul, 1) := gz_d tdX7_bitsOf_t0_ok 51 rfl
theorem dX7_bitsOf_89 : decode cX7_bitsOf 89 = .ok (.d2l, 1) := gz_d tdX7_bitsOf_t0_ok 52 rfl
theorem dX7_bitsOf_90 : decode cX7_bitsOf 90 = .ok (.ladd, 1) := gz_d tdX7_bitsOf_t0_ok 53 rfl
theorem dX7_bitsOf_91 : decode cX7_bitsOf 91 = .ok (.lreturn, 1) := gz_d tdX7_bitsOf_t0_ok 54 rfl
def tdX8_init_t0 : List (Nat × Instr × Nat) := [(0, .aload_n 0, 1), (1, .invokespecial 1, 3), (4, .aload_n 0, 1), (5, .iconst 1, 1), (6, .putfield 7, 3), (9, .aload_n 0, 1), (10, .iconst 1, 1), (11, .putfield 13, 3), (14, .aload_n 0, 1), (15, .iconst 2, 1), (16, .putfield 16, 3), (19, .aload_n 0, 1), (20, .bipush 32, 2), (22, .newarray .int, 2), (24, .putfield 19, 3), (27, .aload_n 0, 1), (28, .iconst 2, 1), (29, .newarray .int, 2), (31, .putfield 23, 3), (34, .aload_n 0, 1), (35, .bipush 8, 2), (37, .newarray .int, 2), (39, .putfield 26, 3), (42, .aload_n 0, 1), (43, .sipush 3888, 3), (46, .newarray .int, 2), (48, .putfield 29, 3), (51, .aload_n 0, 1), (52, .iconst 2, 1), (53, .newarray .int, 2), (55, .putfield 32, 3), (58, .aload_n 0, 1), (59, .iconst 3, 1), (60, .newarray .int, 2), (62, .putfield 35, 3), (65, .aload_n 0, 1), (66, .bipush 18, 2), (68, .newarray .double, 2), (70, .putfield 38, 3), (73, .aload_n 0, 1), (74, .bipush 40, 2), (76, .newarray .double, 2), (78, .putfield 42, 3), (81, .aload_n 0, 1), (82, .bipush 10, 2), (84, .newarray .int, 2), (86, .putfield 45, 3), (89, .aload_n 0, 1), (90, .bipush 10, 2), (92, .newarray .int, 2), (94, .putfield 48, 3), (97, .aload_n 0, 1), (98, .bipush 10, 2), (100, .newarray .double, 2), (102, .putfield 51, 3), (105, .aload_n 0, 1), (106, .bipush 10, 2), (108, .newarray .int, 2), (110, .putfield 54, 3), (113, .aload_n 0, 1)]
theorem tdX8_init_t0_ok : gz_dec cX8_init tdX8_init_t0 = true := by decide +kernel
theorem dX8_init_0 : decode cX8_init 0 = .ok (.aload_n 0, 1) := gz_d tdX8_init_t0_ok 0 rfl
theorem dX8_init_1 : decode cX8_init 1 = .ok (.invokespecial 1, 3) := gz_d tdX8_init_t0_ok 1 rfl
theorem dX8_init_4 : decode cX8_init 4 = .ok (.aload_n 0, 1) := gz_d tdX8_init_t0_ok 2 rfl
theorem dX8_init_5 : decode cX8_init 5 = .ok (.iconst 1, 1) := gz_d tdX8_init_t0_ok 3 rfl
theorem dX8_init_6 : decode cX8_init 6 = .ok (.putfield 7, 3) := gz_d tdX8_init_t0_ok 4 rfl
theorem dX8_init_9 : decode cX8_init 9 = .ok (.aload_n 0, 1) := gz_d tdX8_init_t0_ok 5 rfl
theorem dX8_init_10 : decode cX8_init 10 = .ok (.iconst 1, 1) := gz_d tdX8_init_t0_ok 6 rfl
theorem dX8_init_11 : decode cX8_init 11 = .ok (.putfield 13, 3) := gz_d tdX8_init_t0_ok 7 rfl
theorem dX8_init_14 : decode cX8_init 14 = .ok (.aload_n 0, 1) := gz_d tdX8_init_t0_ok 8 rfl
theorem dX8_init_15 : decode cX8_init 15 = .ok (.iconst 2, 1) := gz_d tdX8_init_t0_ok 9 rfl
theorem dX8_init_16 : decode cX8_init 16 = .ok (.putfield 16, 3) := gz_d tdX8_init_t0_ok 10 rfl
theorem dX8_init_19 : decode cX8_init 19 = .ok (.aload_n 0, 1) := gz_d tdX8_init_t0_ok 11 rfl
theorem dX8_init_20 : decode cX8_init 20 = .ok (.bipush 32, 2) := gz_d tdX8_init_t0_ok 12 rfl
theorem dX8_init_22 : decode cX8_init 22 = .ok (.newarray .int, 2) := gz_d tdX8_init_t0_ok 13 rfl
theorem dX8_init_24 : decode cX8_init 24 = .ok (.putfield 19, 3) := gz_d tdX8_init_t0_ok 14 rfl
theorem dX8_init_27 : decode cX8_init 27 = .ok (.aload_n 0, 1) := gz_d tdX8_init_t0_ok 15 rfl
theorem dX8_init_28 : decode cX8_init 28 = .ok (.iconst 2, 1) := gz_d tdX8_init_t0_ok 16 rfl
theorem dX8_init_29 : decode cX8_init 29 = .ok (.newarray .int, 2) := gz_d tdX8_init_t0_ok 17 rfl
theorem dX8_init_31 : decode cX8_init 31 = .ok (.putfield 23, 3) := gz_d tdX8_init_t0_ok 18 rfl
theorem dX8_init_34 : decode cX8_init 34 = .ok (.aload_n 0, 1) := gz_d tdX8_init_t0_ok 19 rfl
theorem dX8_init_35 : decode cX8_init 35 = .ok (.bipush 8, 2) := gz_d tdX8_init_t0_ok 20 rfl
theorem dX8_init_37 : decode cX8_init 37 = .ok (.newarray .int, 2) := gz_d tdX8_init_t0_ok 21 rfl
theorem dX8_init_39 : decode cX8_init 39 = .ok (.putfield 26, 3) := gz_d tdX8_init_t0_ok 22 rfl
theorem dX8_init_42 : decode cX8_init 42 = .ok (.aload_n 0, 1) := gz_d tdX8_init_t0_ok 23 rfl
theorem dX8_init_43 : decode cX8_init 43 = .ok (.sipush 3888, 3) := gz_d tdX8_init_t0_ok 24 rfl
theorem dX8_init_46 : decode cX8_init 46 = .ok (.newarray .int, 2) := gz_d tdX8_init_t0_ok 25 rfl
theorem dX8_init_48 : decode cX8_init 48 = .ok (.putfield 29, 3) := gz_d tdX8_init_t0_ok 26 rfl
theorem dX8_init_51 : decode cX8_init 51 = .ok (.aload_n 0, 1) := gz_d tdX8_init_t0_ok 27 rfl
theorem dX8_init_52 : decode cX8_init 52 = .ok (.iconst 2, 1) := gz_d tdX8_init_t0_ok 28 rfl
theorem dX8_init_53 : decode cX8_init 53 = .ok (.newarray .int, 2) := gz_d tdX8_init_t0_ok 29 rfl
theorem dX8_init_55 : decode cX8_init 55 = .ok (.putfield 32, 3) := gz_d tdX8_init_t0_ok 30 rfl
theorem dX8_init_58 : decode cX8_init 58 = .ok (.aload_n 0, 1) := gz_d tdX8_init_t0_ok 31 rfl
theorem dX8_init_59 : decode cX8_init 59 = .ok (.iconst 3, 1) := gz_d tdX8_init_t0_ok 32 rfl
theorem dX8_init_60 : decode cX8_init 60 = .ok (.newarray .int, 2) := gz_d tdX8_init_t0_ok 33 rfl
theorem dX8_init_62 : decode cX8_init 62 = .ok (.putfield 35, 3) := gz_d tdX8_init_t0_ok 34 rfl
theorem dX8_init_65 : decode cX8_init 65 = .ok (.aload_n 0, 1) := gz_d tdX8_init_t0_ok 35 rfl
theorem dX8_init_66 : decode cX8_init 66 = .ok (.bipush 18, 2) := gz_d tdX8_init_t0_ok 36 rfl
theorem dX8_init_68 : decode cX8_init 68 = .ok (.newarray .double, 2) := gz_d tdX8_init_t0_ok 37 rfl
theorem dX8_init_70 : decode cX8_init 70 = .ok (.putfield 38, 3) := gz_d tdX8_init_t0_ok 38 rfl
theorem dX8_init_73 : decode cX8_init 73 = .ok (.aload_n 0, 1) := gz_d tdX8_init_t0_ok 39 rfl
theorem dX8_init_74 : decode cX8_init 74 = .ok (.bipush 40, 2) := gz_d tdX8_init_t0_ok 40 rfl
theorem dX8_init_76 : decode cX8_init 76 = .ok (.newarray .double, 2) := gz_d tdX8_init_t0_ok 41 rfl
theorem dX8_init_78 : decode cX8_init 78 = .ok (.putfield 42, 3) := gz_d tdX8_init_t0_ok 42 rfl
theorem dX8_init_81 : decode cX8_init 81 = .ok (.aload_n 0, 1) := gz_d tdX8_init_t0_ok 43 rfl
theorem dX8_init_82 : decode cX8_init 82 = .ok (.bipush 10, 2) := gz_d tdX8_init_t0_ok 44 rfl
theorem dX8_init_84 : decode cX8_init 84 = .ok (.newarray .int, 2) := gz_d tdX8_init_t0_ok 45 rfl
theorem dX8_init_86 : decode cX8_init 86 = .ok (.putfield 45, 3) := gz_d tdX8_init_t0_ok 46 rfl
theorem dX8_init_89 : decode cX8_init 89 = .ok (.aload_n 0, 1) := gz_d tdX8_init_t0_ok 47 rfl
theorem dX8_init_90 : decode cX8_init 90 = .ok (.bipush 10, 2) := gz_d tdX8_init_t0_ok 48 rfl
theorem dX8_init_92 : decode cX8_init 92 = .ok (.newarray .int, 2) := gz_d tdX8_init_t0_ok 49 rfl
theorem dX8_init_94 : decode cX8_init 94 = .ok (.putfield 48, 3) := gz_d tdX8_init_t0_ok 50 rfl
theorem dX8_init_97 : decode cX8_init 97 = .ok (.aload_n 0, 1) := gz_d tdX8_init_t0_ok 51 rfl
theorem dX8_init_98 : decode cX8_init 98 = .ok (.bipush 10, 2) := gz_d tdX8_init_t0_ok 52 rfl
theorem dX8_init_100 : decode cX8_init 100 = .ok (.newarray .double, 2) := gz_d tdX8_init_t0_ok 53 rfl
theorem dX8_init_102 : decode cX8_init 102 = .ok (.putfield 51, 3) := gz_d tdX8_init_t0_ok 54 rfl
theorem dX8_init_105 : decode cX8_init 105 = .ok (.aload_n 0, 1) := gz_d tdX8_init_t0_ok 55 rfl
theorem dX8_init_106 : decode cX8_init 106 = .ok (.bipush 10, 2) := gz_d tdX8_init_t0_ok 56 rfl
theorem dX8_init_108 : decode cX8_init 108 = .ok (.newarray .int, 2) := gz_d tdX8_init_t0_ok 57 rfl
theorem dX8_init_110 : decode cX8_init 110 = .ok (.putfield 54, 3) := gz_d tdX8_init_t0_ok 58 rfl
theorem dX8_init_113 : decode cX8_init 113 = .ok (.aload_n 0, 1) := gz_d tdX8_init_t0_ok 59 rfl
def tdX8_init_t1 : List (Nat × Instr × Nat) := [(114, .bipush 10, 2), (116, .newarray .boolean, 2), (118, .putfield 57, 3), (121, .aload_n 0, 1), (122, .iconst 4, 1), (123, .newarray .int, 2), (125, .putfield 61, 3), (128, .aload_n 0, 1), (129, .invokevirtual 64, 3), (132, .return_, 1)]
theorem tdX8_init_t1_ok : gz_dec cX8_init tdX8_init_t1 = true := by decide +kernel
theorem dX8_init_114 : decode cX8_init 114 = .ok (.bipush 10, 2) := gz_d tdX8_init_t1_ok 0 rfl
theorem dX8_init_116 : decode cX8_init 116 = .ok (.newarray .boolean, 2) := gz_d tdX8_init_t1_ok 1 rfl
theorem dX8_init_118 : decode cX8_init 118 = .ok (.putfield 57, 3) := gz_d tdX8_init_t1_ok 2 rfl
theorem dX8_init_121 : decode cX8_init 121 = .ok (.aload_n 0, 1) := gz_d tdX8_init_t1_ok 3 rfl
theorem dX8_init_122 : decode cX8_init 122 = .ok (.iconst 4, 1) := gz_d tdX8_init_t1_ok 4 rfl
theorem dX8_init_123 : decode cX8_init 123 = .ok (.newarray .int, 2) := gz_d tdX8_init_t1_ok 5 rfl
theorem dX8_init_125 : decode cX8_init 125 = .ok (.putfield 61, 3) := gz_d tdX8_init_t1_ok 6 rfl
theorem dX8_init_128 : decode cX8_init 128 = .ok (.aload_n 0, 1) := gz_d tdX8_init_t1_ok 7 rfl
theorem dX8_init_129 : decode cX8_init 129 = .ok (.invokevirtual 64, 3) := gz_d tdX8_init_t1_ok 8 rfl
theorem dX8_init_132 : decode cX8_init 132 = .ok (.return_, 1) := gz_d tdX8_init_t1_ok 9 rfl
def tdX8_in_t0 : List (Nat × Instr × Nat) := [(0, .iload_n 0, 1), (1, .iload_n 1, 1), (2, .if_icmp .lt 12, 3), (5, .iload_n 0, 1), (6, .iload_n 2, 1), (7, .if_icmp .gt 7, 3), (10, .iconst 1, 1), (11, .goto 4, 3), (14, .iconst 0, 1), (15, .ireturn, 1)]
theorem tdX8_in_t0_ok : gz_dec cX8_in tdX8_in_t0 = true := by decide +kernel
theorem dX8_in_0 : decode cX8_in 0 = .ok (.iload_n 0, 1) := gz_d tdX8_in_t0_ok 0 rfl
theorem dX8_in_1 : decode cX8_in 1 = .ok (.iload_n 1, 1) := gz_d tdX8_in_t0_ok 1 rfl
theorem dX8_in_2 : decode cX8_in 2 = .ok (.if_icmp .lt 12, 3) := gz_d tdX8_in_t0_ok 2 rfl
theorem dX8_in_5 : decode cX8_in 5 = .ok (.iload_n 0, 1) := gz_d tdX8_in_t0_ok 3 rfl
theorem dX8_in_6 : decode cX8_in 6 = .ok (.iload_n 2, 1) := gz_d tdX8_in_t0_ok 4 rfl
theorem dX8_in_7 : decode cX8_in 7 = .ok (.if_icmp .gt 7, 3) := gz_d tdX8_in_t0_ok 5 rfl
theorem dX8_in_10 : decode cX8_in 10 = .ok (.iconst 1, 1) := gz_d tdX8_in_t0_ok 6 rfl
theorem dX8_in_11 : decode cX8_in 11 = .ok (.goto 4, 3) := gz_d tdX8_in_t0_ok 7 rfl
theorem dX8_in_14 : decode cX8_in 14 = .ok (.iconst 0, 1) := gz_d tdX8_in_t0_ok 8 rfl
theorem dX8_in_15 : decode cX8_in 15 = .ok (.ireturn, 1) := gz_d tdX8_in_t0_ok 9 rfl
def tdX8_dice_t0 : List (Nat × Instr × Nat) := [(0, .iload_n 1, 1), (1, .ifCond .ne 10, 3), (4, .aload_n 0, 1), (5, .getfield 7, 3), (8, .goto 7, 3), (11, .aload_n 0, 1), (12, .getfield 13, 3), (15, .ireturn, 1)]
theorem tdX8_dice_t0_ok : gz_dec cX8_dice tdX8_dice_t0 = true := by decide +kernel
theorem dX8_dice_0 : decode cX8_dice 0 = .ok (.iload_n 1, 1) := gz_d tdX8_dice_t0_ok 0 rfl
theorem dX8_dice_1 : decode cX8_dice 1 = .ok (.ifCond .ne 10, 3) := gz_d tdX8_dice_t0_ok 1 rfl
theorem dX8_dice_4 : decode cX8_dice 4 = .ok (.aload_n 0, 1) := gz_d tdX8_dice_t0_ok 2 rfl
theorem dX8_dice_5 : decode cX8_dice 5 = .ok (.getfield 7, 3) := gz_d tdX8_dice_t0_ok 3 rfl
theorem dX8_dice_8 : decode cX8_dice 8 = .ok (.goto 7, 3) := gz_d tdX8_dice_t0_ok 4 rfl
theorem dX8_dice_11 : decode cX8_dice 11 = .ok (.aload_n 0, 1) := gz_d tdX8_dice_t0_ok 5 rfl
theorem dX8_dice_12 : decode cX8_dice 12 = .ok (.getfield 13, 3) := gz_d tdX8_dice_t0_ok 6 rfl
theorem dX8_dice_15 : decode cX8_dice 15 = .ok (.ireturn, 1) := gz_d tdX8_dice_t0_ok 7 rfl
def tdX8_most_t0 : List (Nat × Instr × Nat) := [(0, .aload_n 0, 1), (1, .getfield 7, 3), (4, .aload_n 0, 1), (5, .getfield 13, 3), (8, .iadd, 1), (9, .aload_n 0, 1), (10, .getfield 16, 3), (13, .imul, 1), (14, .ireturn, 1)]
theorem tdX8_most_t0_ok : gz_dec cX8_most tdX8_most_t0 = true := by decide +kernel
theorem dX8_most_0 : decode cX8_most 0 = .ok (.aload_n 0, 1) := gz_d tdX8_most_t0_ok 0 rfl
theorem dX8_most_1 : decode cX8_most 1 = .ok (.getfield 7, 3) := gz_d tdX8_most_t0_ok 1 rfl
theorem dX8_most_4 : decode cX8_most 4 = .ok (.aload_n 0, 1) := gz_d tdX8_most_t0_ok 2 rfl
theorem dX8_most_5 : decode cX8_most 5 = .ok (.getfield 13, 3) := gz_d tdX8_most_t0_ok 3 rfl
theorem dX8_most_8 : decode cX8_most 8 = .ok (.iadd, 1) := gz_d tdX8_most_t0_ok 4 rfl
theorem dX8_most_9 : decode cX8_most 9 = .ok (.aload_n 0, 1) := gz_d tdX8_most_t0_ok 5 rfl
theorem dX8_most_10 : decode cX8_most 10 = .ok (.getfield 16, 3) := gz_d tdX8_most_t0_ok 6 rfl
theorem dX8_most_13 : decode cX8_most 13 = .ok (.imul, 1) := gz_d tdX8_most_t0_ok 7 rfl
theorem dX8_most_14 : decode cX8_most 14 = .ok (.ireturn, 1) := gz_d tdX8_most_t0_ok 8 rfl
def tdX8_product_t0 : List (Nat × Instr × Nat) := [(0, .iload_n 0, 1), (1, .iconst 2, 1), (2, .if_icmp .ge 7, 3), (5, .iconst 1, 1), (6, .goto 14, 3), (9, .iload_n 0, 1), (10, .iconst 2, 1), (11, .if_icmp .ne 7, 3), (14, .iconst 2, 1), (15, .goto 5, 3), (18, .bipush 6, 2), (20, .ireturn, 1)]
theorem tdX8_product_t0_ok : gz_dec cX8_product tdX8_product_t0 = true := by decide +kernel
theorem dX8_product_0 : decode cX8_product 0 = .ok (.iload_n 0, 1) := gz_d tdX8_product_t0_ok 0 rfl
theorem dX8_product_1 : decode cX8_product 1 = .ok (.iconst 2, 1) := gz_d tdX8_product_t0_ok 1 rfl
theorem dX8_product_2 : decode cX8_product 2 = .ok (.if_icmp .ge 7, 3) := gz_d tdX8_product_t0_ok 2 rfl
theorem dX8_product_5 : decode cX8_product 5 = .ok (.iconst 1, 1) := gz_d tdX8_product_t0_ok 3 rfl
theorem dX8_product_6 : decode cX8_product 6 = .ok (.goto 14, 3) := gz_d tdX8_product_t0_ok 4 rfl
theorem dX8_product_9 : decode cX8_product 9 = .ok (.iload_n 0, 1) := gz_d tdX8_product_t0_ok 5 rfl
theorem dX8_product_10 : decode cX8_product 10 = .ok (.iconst 2, 1) := gz_d tdX8_product_t0_ok 6 rfl
theorem dX8_product_11 : decode cX8_product 11 = .ok (.if_icmp .ne 7, 3) := gz_d tdX8_product_t0_ok 7 rfl
theorem dX8_product_14 : decode cX8_product 14 = .ok (.iconst 2, 1) := gz_d tdX8_product_t0_ok 8 rfl
theorem dX8_product_15 : decode cX8_product 15 = .ok (.goto 5, 3) := gz_d tdX8_product_t0_ok 9 rfl
theorem dX8_product_18 : decode cX8_product 18 = .ok (.bipush 6, 2) := gz_d tdX8_product_t0_ok 10 rfl
theorem dX8_product_20 : decode cX8_product 20 = .ok (.ireturn, 1) := gz_d tdX8_product_t0_ok 11 rfl

def tdX8_layHands_t0 : List (Nat × Instr × Nat) := [(0, .aload_n 0, 1), (1, .iload_n 1, 1), (2, .invokevirtual 67, 3), (5, .istore_n 2, 1), (6, .iconst 1, 1), (7, .istore_n 3, 1), (8, .iconst 0, 1), (9, .istore 4, 2), (11, .iload 4, 2), (13, .iload_n 2, 1), (14, .if_icmp .ge 16, 3), (17, .iload_n 3, 1), (18, .aload_n 0, 1), (19, .getfield 16, 3), (22, .imul, 1), (23, .istore_n 3, 1), (24, .iinc 4 1, 3), (27, .goto (-16), 3), (30, .iconst 0, 1), (31, .istore 4, 2), (33, .iconst 0, 1), (34, .istore 5, 2), (36, .iload 5, 2), (38, .iload_n 3, 1), (39, .if_icmp .ge 205, 3), (42, .iload 5, 2), (44, .istore 6, 2), (46, .iconst 1, 1), (47, .istore 7, 2), (49, .iload_n 2, 1), (50, .iconst 1, 1), (51, .isub, 1), (52, .istore 8, 2), (54, .iload 8, 2), (56, .ifCond .lt 71, 3), (59, .aload_n 0, 1), (60, .getfield 35, 3), (63, .iload 8, 2), (65, .iload 6, 2), (67, .aload_n 0, 1), (68, .getfield 16, 3), (71, .irem, 1), (72, .iastore, 1), (73, .iload 6, 2), (75, .aload_n 0, 1), (76, .getfield 16, 3), (79, .idiv, 1), (80, .istore 6, 2), (82, .iload 7, 2), (84, .ifCond .eq 34, 3), (87, .iload 8, 2), (89, .iload_n 2, 1), (90, .iconst 1, 1), (91, .isub, 1), (92, .if_icmp .eq 22, 3), (95, .aload_n 0, 1), (96, .getfield 35, 3), (99, .iload 8, 2), (101, .iaload, 1), (102, .aload_n 0, 1)]
theorem tdX8_layHands_t0_ok : gz_dec cX8_layHands tdX8_layHands_t0 = true := by decide +kernel
theorem dX8_layHands_0 : decode cX8_layHands 0 = .ok (.aload_n 0, 1) := gz_d tdX8_layHands_t0_ok 0 rfl
theorem dX8_layHands_1 : decode cX8_layHands 1 = .ok (.iload_n 1, 1) := gz_d tdX8_layHands_t0_ok 1 rfl
theorem dX8_layHands_2 : decode cX8_layHands 2 = .ok (.invokevirtual 67, 3) := gz_d tdX8_layHands_t0_ok 2 rfl
theorem dX8_layHands_5 : decode cX8_layHands 5 = .ok (.istore_n 2, 1) := gz_d tdX8_layHands_t0_ok 3 rfl
theorem dX8_layHands_6 : decode cX8_layHands 6 = .ok (.iconst 1, 1) := gz_d tdX8_layHands_t0_ok 4 rfl
theorem dX8_layHands_7 : decode cX8_layHands 7 = .ok (.istore_n 3, 1) := gz_d tdX8_layHands_t0_ok 5 rfl
theorem dX8_layHands_8 : decode cX8_layHands 8 = .ok (.iconst 0, 1) := gz_d tdX8_layHands_t0_ok 6 rfl
theorem dX8_layHands_9 : decode cX8_layHands 9 = .ok (.istore 4, 2) := gz_d tdX8_layHands_t0_ok 7 rfl
theorem dX8_layHands_11 : decode cX8_layHands 11 = .ok (.iload 4, 2) := gz_d tdX8_layHands_t0_ok 8 rfl
theorem dX8_layHands_13 : decode cX8_layHands 13 = .ok (.iload_n 2, 1) := gz_d tdX8_layHands_t0_ok 9 rfl
theorem dX8_layHands_14 : decode cX8_layHands 14 = .ok (.if_icmp .ge 16, 3) := gz_d tdX8_layHands_t0_ok 10 rfl
theorem dX8_layHands_17 : decode cX8_layHands 17 = .ok (.iload_n 3, 1) := gz_d tdX8_layHands_t0_ok 11 rfl
theorem dX8_layHands_18 : decode cX8_layHands 18 = .ok (.aload_n 0, 1) := gz_d tdX8_layHands_t0_ok 12 rfl
theorem dX8_layHands_19 : decode cX8_layHands 19 = .ok (.getfield 16, 3) := gz_d tdX8_layHands_t0_ok 13 rfl
theorem dX8_layHands_22 : decode cX8_layHands 22 = .ok (.imul, 1) := gz_d tdX8_layHands_t0_ok 14 rfl
theorem dX8_layHands_23 : decode cX8_layHands 23 = .ok (.istore_n 3, 1) := gz_d tdX8_layHands_t0_ok 15 rfl
theorem dX8_layHands_24 : decode cX8_layHands 24 = .ok (.iinc 4 1, 3) := gz_d tdX8_layHands_t0_ok 16 rfl
theorem dX8_layHands_27 : decode cX8_layHands 27 = .ok (.goto (-16), 3) := gz_d tdX8_layHands_t0_ok 17 rfl
theorem dX8_layHands_30 : decode cX8_layHands 30 = .ok (.iconst 0, 1) := gz_d tdX8_layHands_t0_ok 18 rfl
theorem dX8_layHands_31 : decode cX8_layHands 31 = .ok (.istore 4, 2) := gz_d tdX8_layHands_t0_ok 19 rfl
theorem dX8_layHands_33 : decode cX8_layHands 33 = .ok (.iconst 0, 1) := gz_d tdX8_layHands_t0_ok 20 rfl
theorem dX8_layHands_34 : decode cX8_layHands 34 = .ok (.istore 5, 2) := gz_d tdX8_layHands_t0_ok 21 rfl
theorem dX8_layHands_36 : decode cX8_layHands 36 = .ok (.iload 5, 2) := gz_d tdX8_layHands_t0_ok 22 rfl
theorem dX8_layHands_38 : decode cX8_layHands 38 = .ok (.iload_n 3, 1) := gz_d tdX8_layHands_t0_ok 23 rfl
theorem dX8_layHands_39 : decode cX8_layHands 39 = .ok (.if_icmp .ge 205, 3) := gz_d tdX8_layHands_t0_ok 24 rfl
theorem dX8_layHands_42 : decode cX8_layHands 42 = .ok (.iload 5, 2) := gz_d tdX8_layHands_t0_ok 25 rfl
theorem dX8_layHands_44 : decode cX8_layHands 44 = .ok (.istore 6, 2) := gz_d tdX8_layHands_t0_ok 26 rfl
theorem dX8_layHands_46 : decode cX8_layHands 46 = .ok (.iconst 1, 1) := gz_d tdX8_layHands_t0_ok 27 rfl
theorem dX8_layHands_47 : decode cX8_layHands 47 = .ok (.istore 7, 2) := gz_d tdX8_layHands_t0_ok 28 rfl
theorem dX8_layHands_49 : decode cX8_layHands 49 = .ok (.iload_n 2, 1) := gz_d tdX8_layHands_t0_ok 29 rfl
theorem dX8_layHands_50 : decode cX8_layHands 50 = .ok (.iconst 1, 1) := gz_d tdX8_layHands_t0_ok 30 rfl
theorem dX8_layHands_51 : decode cX8_layHands 51 = .ok (.isub, 1) := gz_d tdX8_layHands_t0_ok 31 rfl
theorem dX8_layHands_52 : decode cX8_layHands 52 = .ok (.istore 8, 2) := gz_d tdX8_layHands_t0_ok 32 rfl
theorem dX8_layHands_54 : decode cX8_layHands 54 = .ok (.iload 8, 2) := gz_d tdX8_layHands_t0_ok 33 rfl
theorem dX8_layHands_56 : decode cX8_layHands 56 = .ok (.ifCond .lt 71, 3) := gz_d tdX8_layHands_t0_ok 34 rfl
theorem dX8_layHands_59 : decode cX8_layHands 59 = .ok (.aload_n 0, 1) := gz_d tdX8_layHands_t0_ok 35 rfl
theorem dX8_layHands_60 : decode cX8_layHands 60 = .ok (.getfield 35, 3) := gz_d tdX8_layHands_t0_ok 36 rfl
theorem dX8_layHands_63 : decode cX8_layHands 63 = .ok (.iload 8, 2) := gz_d tdX8_layHands_t0_ok 37 rfl
theorem dX8_layHands_65 : decode cX8_layHands 65 = .ok (.iload 6, 2) := gz_d tdX8_layHands_t0_ok 38 rfl
theorem dX8_layHands_67 : decode cX8_layHands 67 = .ok (.aload_n 0, 1) := gz_d tdX8_layHands_t0_ok 39 rfl
theorem dX8_layHands_68 : decode cX8_layHands 68 = .ok (.getfield 16, 3) := gz_d tdX8_layHands_t0_ok 40 rfl
theorem dX8_layHands_71 : decode cX8_layHands 71 = .ok (.irem, 1) := gz_d tdX8_layHands_t0_ok 41 rfl
theorem dX8_layHands_72 : decode cX8_layHands 72 = .ok (.iastore, 1) := gz_d tdX8_layHands_t0_ok 42 rfl
theorem dX8_layHands_73 : decode cX8_layHands 73 = .ok (.iload 6, 2) := gz_d tdX8_layHands_t0_ok 43 rfl
theorem dX8_layHands_75 : decode cX8_layHands 75 = .ok (.aload_n 0, 1) := gz_d tdX8_layHands_t0_ok 44 rfl
theorem dX8_layHands_76 : decode cX8_layHands 76 = .ok (.getfield 16, 3) := gz_d tdX8_layHands_t0_ok 45 rfl
theorem dX8_layHands_79 : decode cX8_layHands 79 = .ok (.idiv, 1) := gz_d tdX8_layHands_t0_ok 46 rfl
theorem dX8_layHands_80 : decode cX8_layHands 80 = .ok (.istore 6, 2) := gz_d tdX8_layHands_t0_ok 47 rfl
theorem dX8_layHands_82 : decode cX8_layHands 82 = .ok (.iload 7, 2) := gz_d tdX8_layHands_t0_ok 48 rfl
theorem dX8_layHands_84 : decode cX8_layHands 84 = .ok (.ifCond .eq 34, 3) := gz_d tdX8_layHands_t0_ok 49 rfl
theorem dX8_layHands_87 : decode cX8_layHands 87 = .ok (.iload 8, 2) := gz_d tdX8_layHands_t0_ok 50 rfl
theorem dX8_layHands_89 : decode cX8_layHands 89 = .ok (.iload_n 2, 1) := gz_d tdX8_layHands_t0_ok 51 rfl
theorem dX8_layHands_90 : decode cX8_layHands 90 = .ok (.iconst 1, 1) := gz_d tdX8_layHands_t0_ok 52 rfl
theorem dX8_layHands_91 : decode cX8_layHands 91 = .ok (.isub, 1) := gz_d tdX8_layHands_t0_ok 53 rfl
theorem dX8_layHands_92 : decode cX8_layHands 92 = .ok (.if_icmp .eq 22, 3) := gz_d tdX8_layHands_t0_ok 54 rfl
theorem dX8_layHands_95 : decode cX8_layHands 95 = .ok (.aload_n 0, 1) := gz_d tdX8_layHands_t0_ok 55 rfl
theorem dX8_layHands_96 : decode cX8_layHands 96 = .ok (.getfield 35, 3) := gz_d tdX8_layHands_t0_ok 56 rfl
theorem dX8_layHands_99 : decode cX8_layHands 99 = .ok (.iload 8, 2) := gz_d tdX8_layHands_t0_ok 57 rfl
theorem dX8_layHands_101 : decode cX8_layHands 101 = .ok (.iaload, 1) := gz_d tdX8_layHands_t0_ok 58 rfl
theorem dX8_layHands_102 : decode cX8_layHands 102 = .ok (.aload_n 0, 1) := gz_d tdX8_layHands_t0_ok 59 rfl
def tdX8_layHands_t1 : List (Nat × Instr × Nat) := [(103, .getfield 35, 3), (106, .iload 8, 2), (108, .iconst 1, 1), (109, .iadd, 1), (110, .iaload, 1), (111, .if_icmp .gt 7, 3), (114, .iconst 1, 1), (115, .goto 4, 3), (118, .iconst 0, 1), (119, .istore 7, 2), (121, .iinc 8 (-1), 3), (124, .goto (-70), 3), (127, .iload 7, 2), (129, .ifCond .eq 109, 3), (132, .iload_n 2, 1), (133, .invokestatic 71, 3), (136, .istore 8, 2), (138, .iconst 0, 1), (139, .istore 9, 2), (141, .iload 9, 2), (143, .iconst 4, 1), (144, .if_icmp .ge 78, 3), (147, .iconst 0, 1), (148, .istore 10, 2), (150, .iconst 0, 1), (151, .istore 11, 2), (153, .iload 11, 2), (155, .iload_n 2, 1), (156, .if_icmp .ge 31, 3), (159, .iload 10, 2), (161, .aload_n 0, 1), (162, .getfield 35, 3), (165, .iload 11, 2), (167, .iaload, 1), (168, .iload 9, 2), (170, .if_icmp .ne 7, 3), (173, .iconst 1, 1), (174, .goto 4, 3), (177, .iconst 0, 1), (178, .iadd, 1), (179, .istore 10, 2), (181, .iinc 11 1, 3), (184, .goto (-31), 3), (187, .aload_n 0, 1), (188, .getfield 19, 3), (191, .bipush 16, 2), (193, .iload_n 1, 1), (194, .imul, 1), (195, .iconst 4, 1), (196, .iload 4, 2), (198, .imul, 1), (199, .iadd, 1), (200, .iload 9, 2), (202, .iadd, 1), (203, .iload 10, 2), (205, .iastore, 1), (206, .iload 8, 2), (208, .iload 10, 2), (210, .invokestatic 71, 3), (213, .idiv, 1)]
theorem tdX8_layHands_t1_ok : gz_dec cX8_layHands tdX8_layHands_t1 = true := by decide +kernel
theorem dX8_layHands_103 : decode cX8_layHands 103 = .ok (.getfield 35, 3) := gz_d tdX8_layHands_t1_ok 0 rfl
theorem dX8_layHands_106 : decode cX8_layHands 106 = .ok (.iload 8, 2) := gz_d tdX8_layHands_t1_ok 1 rfl
theorem dX8_layHands_108 : decode cX8_layHands 108 = .ok (.iconst 1, 1) := gz_d tdX8_layHands_t1_ok 2 rfl
theorem dX8_layHands_109 : decode cX8_layHands 109 = .ok (.iadd, 1) := gz_d tdX8_layHands_t1_ok 3 rfl
theorem dX8_layHands_110 : decode cX8_layHands 110 = .ok (.iaload, 1) := gz_d tdX8_layHands_t1_ok 4 rfl
theorem dX8_layHands_111 : decode cX8_layHands 111 = .ok (.if_icmp .gt 7, 3) := gz_d tdX8_layHands_t1_ok 5 rfl
theorem dX8_layHands_114 : decode cX8_layHands 114 = .ok (.iconst 1, 1) := gz_d tdX8_layHands_t1_ok 6 rfl
theorem dX8_layHands_115 : decode cX8_layHands 115 = .ok (.goto 4, 3) := gz_d tdX8_layHands_t1_ok 7 rfl
theorem dX8_layHands_118 : decode cX8_layHands 118 = .ok (.iconst 0, 1) := gz_d tdX8_layHands_t1_ok 8 rfl
theorem dX8_layHands_119 : decode cX8_layHands 119 = .ok (.istore 7, 2) := gz_d tdX8_layHands_t1_ok 9 rfl
theorem dX8_layHands_121 : decode cX8_layHands 121 = .ok (.iinc 8 (-1), 3) := gz_d tdX8_layHands_t1_ok 10 rfl
theorem dX8_layHands_124 : decode cX8_layHands 124 = .ok (.goto (-70), 3) := gz_d tdX8_layHands_t1_ok 11 rfl
theorem dX8_layHands_127 : decode cX8_layHands 127 = .ok (.iload 7, 2) := gz_d tdX8_layHands_t1_ok 12 rfl
theorem dX8_layHands_129 : decode cX8_layHands 129 = .ok (.ifCond .eq 109, 3) := gz_d tdX8_layHands_t1_ok 13 rfl
theorem dX8_layHands_132 : decode cX8_layHands 132 = .ok (.iload_n 2, 1) := gz_d tdX8_layHands_t1_ok 14 rfl
theorem dX8_layHands_133 : decode cX8_layHands 133 = .ok (.invokestatic 71, 3) := gz_d tdX8_layHands_t1_ok 15 rfl
theorem dX8_layHands_136 : decode cX8_layHands 136 = .ok (.istore 8, 2) := gz_d tdX8_layHands_t1_ok 16 rfl
theorem dX8_layHands_138 : decode cX8_layHands 138 = .ok (.iconst 0, 1) := gz_d tdX8_layHands_t1_ok 17 rfl
theorem dX8_layHands_139 : decode cX8_layHands 139 = .ok (.istore 9, 2) := gz_d tdX8_layHands_t1_ok 18 rfl
theorem dX8_layHands_141 : decode cX8_layHands 141 = .ok (.iload 9, 2) := gz_d tdX8_layHands_t1_ok 19 rfl
theorem dX8_layHands_143 : decode cX8_layHands 143 = .ok (.iconst 4, 1) := gz_d tdX8_layHands_t1_ok 20 rfl
theorem dX8_layHands_144 : decode cX8_layHands 144 = .ok (.if_icmp .ge 78, 3) := gz_d tdX8_layHands_t1_ok 21 rfl
theorem dX8_layHands_147 : decode cX8_layHands 147 = .ok (.iconst 0, 1) := gz_d tdX8_layHands_t1_ok 22 rfl
theorem dX8_layHands_148 : decode cX8_layHands 148 = .ok (.istore 10, 2) := gz_d tdX8_layHands_t1_ok 23 rfl
theorem dX8_layHands_150 : decode cX8_layHands 150 = .ok (.iconst 0, 1) := gz_d tdX8_layHands_t1_ok 24 rfl
theorem dX8_layHands_151 : decode cX8_layHands 151 = .ok (.istore 11, 2) := gz_d tdX8_layHands_t1_ok 25 rfl
theorem dX8_layHands_153 : decode cX8_layHands 153 = .ok (.iload 11, 2) := gz_d tdX8_layHands_t1_ok 26 rfl
theorem dX8_layHands_155 : decode cX8_layHands 155 = .ok (.iload_n 2, 1) := gz_d tdX8_layHands_t1_ok 27 rfl
theorem dX8_layHands_156 : decode cX8_layHands 156 = .ok (.if_icmp .ge 31, 3) := gz_d tdX8_layHands_t1_ok 28 rfl
theorem dX8_layHands_159 : decode cX8_layHands 159 = .ok (.iload 10, 2) := gz_d tdX8_layHands_t1_ok 29 rfl
theorem dX8_layHands_161 : decode cX8_layHands 161 = .ok (.aload_n 0, 1) := gz_d tdX8_layHands_t1_ok 30 rfl
theorem dX8_layHands_162 : decode cX8_layHands 162 = .ok (.getfield 35, 3) := gz_d tdX8_layHands_t1_ok 31 rfl
theorem dX8_layHands_165 : decode cX8_layHands 165 = .ok (.iload 11, 2) := gz_d tdX8_layHands_t1_ok 32 rfl
theorem dX8_layHands_167 : decode cX8_layHands 167 = .ok (.iaload, 1) := gz_d tdX8_layHands_t1_ok 33 rfl
theorem dX8_layHands_168 : decode cX8_layHands 168 = .ok (.iload 9, 2) := gz_d tdX8_layHands_t1_ok 34 rfl
theorem dX8_layHands_170 : decode cX8_layHands 170 = .ok (.if_icmp .ne 7, 3) := gz_d tdX8_layHands_t1_ok 35 rfl
theorem dX8_layHands_173 : decode cX8_layHands 173 = .ok (.iconst 1, 1) := gz_d tdX8_layHands_t1_ok 36 rfl
theorem dX8_layHands_174 : decode cX8_layHands 174 = .ok (.goto 4, 3) := gz_d tdX8_layHands_t1_ok 37 rfl
theorem dX8_layHands_177 : decode cX8_layHands 177 = .ok (.iconst 0, 1) := gz_d tdX8_layHands_t1_ok 38 rfl
theorem dX8_layHands_178 : decode cX8_layHands 178 = .ok (.iadd, 1) := gz_d tdX8_layHands_t1_ok 39 rfl
theorem dX8_layHands_179 : decode cX8_layHands 179 = .ok (.istore 10, 2) := gz_d tdX8_layHands_t1_ok 40 rfl
theorem dX8_layHands_181 : decode cX8_layHands 181 = .ok (.iinc 11 1, 3) := gz_d tdX8_layHands_t1_ok 41 rfl
theorem dX8_layHands_184 : decode cX8_layHands 184 = .ok (.goto (-31), 3) := gz_d tdX8_layHands_t1_ok 42 rfl
theorem dX8_layHands_187 : decode cX8_layHands 187 = .ok (.aload_n 0, 1) := gz_d tdX8_layHands_t1_ok 43 rfl
theorem dX8_layHands_188 : decode cX8_layHands 188 = .ok (.getfield 19, 3) := gz_d tdX8_layHands_t1_ok 44 rfl
theorem dX8_layHands_191 : decode cX8_layHands 191 = .ok (.bipush 16, 2) := gz_d tdX8_layHands_t1_ok 45 rfl
theorem dX8_layHands_193 : decode cX8_layHands 193 = .ok (.iload_n 1, 1) := gz_d tdX8_layHands_t1_ok 46 rfl
theorem dX8_layHands_194 : decode cX8_layHands 194 = .ok (.imul, 1) := gz_d tdX8_layHands_t1_ok 47 rfl
theorem dX8_layHands_195 : decode cX8_layHands 195 = .ok (.iconst 4, 1) := gz_d tdX8_layHands_t1_ok 48 rfl
theorem dX8_layHands_196 : decode cX8_layHands 196 = .ok (.iload 4, 2) := gz_d tdX8_layHands_t1_ok 49 rfl
theorem dX8_layHands_198 : decode cX8_layHands 198 = .ok (.imul, 1) := gz_d tdX8_layHands_t1_ok 50 rfl
theorem dX8_layHands_199 : decode cX8_layHands 199 = .ok (.iadd, 1) := gz_d tdX8_layHands_t1_ok 51 rfl
theorem dX8_layHands_200 : decode cX8_layHands 200 = .ok (.iload 9, 2) := gz_d tdX8_layHands_t1_ok 52 rfl
theorem dX8_layHands_202 : decode cX8_layHands 202 = .ok (.iadd, 1) := gz_d tdX8_layHands_t1_ok 53 rfl
theorem dX8_layHands_203 : decode cX8_layHands 203 = .ok (.iload 10, 2) := gz_d tdX8_layHands_t1_ok 54 rfl
theorem dX8_layHands_205 : decode cX8_layHands 205 = .ok (.iastore, 1) := gz_d tdX8_layHands_t1_ok 55 rfl
theorem dX8_layHands_206 : decode cX8_layHands 206 = .ok (.iload 8, 2) := gz_d tdX8_layHands_t1_ok 56 rfl
theorem dX8_layHands_208 : decode cX8_layHands 208 = .ok (.iload 10, 2) := gz_d tdX8_layHands_t1_ok 57 rfl
theorem dX8_layHands_210 : decode cX8_layHands 210 = .ok (.invokestatic 71, 3) := gz_d tdX8_layHands_t1_ok 58 rfl
theorem dX8_layHands_213 : decode cX8_layHands 213 = .ok (.idiv, 1) := gz_d tdX8_layHands_t1_ok 59 rfl
def tdX8_layHands_t2 : List (Nat × Instr × Nat) := [(214, .istore 8, 2), (216, .iinc 9 1, 3), (219, .goto (-78), 3), (222, .aload_n 0, 1), (223, .getfield 26, 3), (226, .iconst 4, 1), (227, .iload_n 1, 1), (228, .imul, 1), (229, .iload 4, 2), (231, .iadd, 1), (232, .iload 8, 2), (234, .iastore, 1), (235, .iinc 4 1, 3), (238, .iinc 5 1, 3), (241, .goto (-205), 3), (244, .aload_n 0, 1), (245, .getfield 23, 3), (248, .iload_n 1, 1), (249, .iload 4, 2), (251, .iastore, 1), (252, .return_, 1)]
theorem tdX8_layHands_t2_ok : gz_dec cX8_layHands tdX8_layHands_t2 = true := by decide +kernel
theorem dX8_layHands_214 : decode cX8_layHands 214 = .ok (.istore 8, 2) := gz_d tdX8_layHands_t2_ok 0 rfl
theorem dX8_layHands_216 : decode cX8_layHands 216 = .ok (.iinc 9 1, 3) := gz_d tdX8_layHands_t2_ok 1 rfl
theorem dX8_layHands_219 : decode cX8_layHands 219 = .ok (.goto (-78), 3) := gz_d tdX8_layHands_t2_ok 2 rfl
theorem dX8_layHands_222 : decode cX8_layHands 222 = .ok (.aload_n 0, 1) := gz_d tdX8_layHands_t2_ok 3 rfl
theorem dX8_layHands_223 : decode cX8_layHands 223 = .ok (.getfield 26, 3) := gz_d tdX8_layHands_t2_ok 4 rfl
theorem dX8_layHands_226 : decode cX8_layHands 226 = .ok (.iconst 4, 1) := gz_d tdX8_layHands_t2_ok 5 rfl
theorem dX8_layHands_227 : decode cX8_layHands 227 = .ok (.iload_n 1, 1) := gz_d tdX8_layHands_t2_ok 6 rfl
theorem dX8_layHands_228 : decode cX8_layHands 228 = .ok (.imul, 1) := gz_d tdX8_layHands_t2_ok 7 rfl
theorem dX8_layHands_229 : decode cX8_layHands 229 = .ok (.iload 4, 2) := gz_d tdX8_layHands_t2_ok 8 rfl
theorem dX8_layHands_231 : decode cX8_layHands 231 = .ok (.iadd, 1) := gz_d tdX8_layHands_t2_ok 9 rfl
theorem dX8_layHands_232 : decode cX8_layHands 232 = .ok (.iload 8, 2) := gz_d tdX8_layHands_t2_ok 10 rfl
theorem dX8_layHands_234 : decode cX8_layHands 234 = .ok (.iastore, 1) := gz_d tdX8_layHands_t2_ok 11 rfl
theorem dX8_layHands_235 : decode cX8_layHands 235 = .ok (.iinc 4 1, 3) := gz_d tdX8_layHands_t2_ok 12 rfl
theorem dX8_layHands_238 : decode cX8_layHands 238 = .ok (.iinc 5 1, 3) := gz_d tdX8_layHands_t2_ok 13 rfl
theorem dX8_layHands_241 : decode cX8_layHands 241 = .ok (.goto (-205), 3) := gz_d tdX8_layHands_t2_ok 14 rfl
theorem dX8_layHands_244 : decode cX8_layHands 244 = .ok (.aload_n 0, 1) := gz_d tdX8_layHands_t2_ok 15 rfl
theorem dX8_layHands_245 : decode cX8_layHands 245 = .ok (.getfield 23, 3) := gz_d tdX8_layHands_t2_ok 16 rfl
theorem dX8_layHands_248 : decode cX8_layHands 248 = .ok (.iload_n 1, 1) := gz_d tdX8_layHands_t2_ok 17 rfl
theorem dX8_layHands_249 : decode cX8_layHands 249 = .ok (.iload 4, 2) := gz_d tdX8_layHands_t2_ok 18 rfl
theorem dX8_layHands_251 : decode cX8_layHands 251 = .ok (.iastore, 1) := gz_d tdX8_layHands_t2_ok 19 rfl
theorem dX8_layHands_252 : decode cX8_layHands 252 = .ok (.return_, 1) := gz_d tdX8_layHands_t2_ok 20 rfl
def tdX8_lay_t0 : List (Nat × Instr × Nat) := [(0, .aload_n 0, 1), (1, .iconst 0, 1), (2, .invokevirtual 74, 3), (5, .aload_n 0, 1), (6, .iconst 1, 1), (7, .invokevirtual 74, 3), (10, .iconst 0, 1), (11, .istore_n 1, 1), (12, .iload_n 1, 1), (13, .sipush 3888, 3), (16, .if_icmp .ge 16, 3), (19, .aload_n 0, 1), (20, .getfield 29, 3), (23, .iload_n 1, 1), (24, .iconst 1, 1), (25, .iastore, 1), (26, .iinc 1 1, 3), (29, .goto (-17), 3), (32, .aload_n 0, 1), (33, .iconst 0, 1), (34, .putfield 78, 3), (37, .return_, 1)]
theorem tdX8_lay_t0_ok : gz_dec cX8_lay tdX8_lay_t0 = true := by decide +kernel
theorem dX8_lay_0 : decode cX8_lay 0 = .ok (.aload_n 0, 1) := gz_d tdX8_lay_t0_ok 0 rfl
theorem dX8_lay_1 : decode cX8_lay 1 = .ok (.iconst 0, 1) := gz_d tdX8_lay_t0_ok 1 rfl
theorem dX8_lay_2 : decode cX8_lay 2 = .ok (.invokevirtual 74, 3) := gz_d tdX8_lay_t0_ok 2 rfl
theorem dX8_lay_5 : decode cX8_lay 5 = .ok (.aload_n 0, 1) := gz_d tdX8_lay_t0_ok 3 rfl
theorem dX8_lay_6 : decode cX8_lay 6 = .ok (.iconst 1, 1) := gz_d tdX8_lay_t0_ok 4 rfl
theorem dX8_lay_7 : decode cX8_lay 7 = .ok (.invokevirtual 74, 3) := gz_d tdX8_lay_t0_ok 5 rfl
theorem dX8_lay_10 : decode cX8_lay 10 = .ok (.iconst 0, 1) := gz_d tdX8_lay_t0_ok 6 rfl
theorem dX8_lay_11 : decode cX8_lay 11 = .ok (.istore_n 1, 1) := gz_d tdX8_lay_t0_ok 7 rfl
theorem dX8_lay_12 : decode cX8_lay 12 = .ok (.iload_n 1, 1) := gz_d tdX8_lay_t0_ok 8 rfl
theorem dX8_lay_13 : decode cX8_lay 13 = .ok (.sipush 3888, 3) := gz_d tdX8_lay_t0_ok 9 rfl
theorem dX8_lay_16 : decode cX8_lay 16 = .ok (.if_icmp .ge 16, 3) := gz_d tdX8_lay_t0_ok 10 rfl
theorem dX8_lay_19 : decode cX8_lay 19 = .ok (.aload_n 0, 1) := gz_d tdX8_lay_t0_ok 11 rfl
theorem dX8_lay_20 : decode cX8_lay 20 = .ok (.getfield 29, 3) := gz_d tdX8_lay_t0_ok 12 rfl
theorem dX8_lay_23 : decode cX8_lay 23 = .ok (.iload_n 1, 1) := gz_d tdX8_lay_t0_ok 13 rfl
theorem dX8_lay_24 : decode cX8_lay 24 = .ok (.iconst 1, 1) := gz_d tdX8_lay_t0_ok 14 rfl
theorem dX8_lay_25 : decode cX8_lay 25 = .ok (.iastore, 1) := gz_d tdX8_lay_t0_ok 15 rfl
theorem dX8_lay_26 : decode cX8_lay 26 = .ok (.iinc 1 1, 3) := gz_d tdX8_lay_t0_ok 16 rfl
theorem dX8_lay_29 : decode cX8_lay 29 = .ok (.goto (-17), 3) := gz_d tdX8_lay_t0_ok 17 rfl
theorem dX8_lay_32 : decode cX8_lay 32 = .ok (.aload_n 0, 1) := gz_d tdX8_lay_t0_ok 18 rfl
theorem dX8_lay_33 : decode cX8_lay 33 = .ok (.iconst 0, 1) := gz_d tdX8_lay_t0_ok 19 rfl
theorem dX8_lay_34 : decode cX8_lay 34 = .ok (.putfield 78, 3) := gz_d tdX8_lay_t0_ok 20 rfl
theorem dX8_lay_37 : decode cX8_lay 37 = .ok (.return_, 1) := gz_d tdX8_lay_t0_ok 21 rfl
def tdX8_cups_t0 : List (Nat × Instr × Nat) := [(0, .iload_n 1, 1), (1, .iconst 1, 1), (2, .iconst 3, 1), (3, .invokestatic 82, 3), (6, .ifCond .eq 31, 3), (9, .iload_n 2, 1), (10, .iconst 1, 1), (11, .iconst 3, 1), (12, .invokestatic 82, 3), (15, .ifCond .eq 22, 3), (18, .iload_n 3, 1), (19, .iconst 2, 1), (20, .iconst 4, 1), (21, .invokestatic 82, 3), (24, .ifCond .eq 13, 3), (27, .iload_n 1, 1), (28, .iload_n 2, 1), (29, .iadd, 1), (30, .iload_n 3, 1), (31, .imul, 1), (32, .bipush 8, 2), (34, .if_icmp .le 6, 3), (37, .bipush (-2), 2), (39, .ireturn, 1), (40, .aload_n 0, 1), (41, .iload_n 1, 1), (42, .putfield 7, 3), (45, .aload_n 0, 1), (46, .iload_n 2, 1), (47, .putfield 13, 3), (50, .aload_n 0, 1), (51, .iload_n 3, 1), (52, .putfield 16, 3), (55, .aload_n 0, 1), (56, .iload 4, 2), (58, .putfield 86, 3), (61, .aload_n 0, 1), (62, .invokevirtual 64, 3), (65, .aload_n 0, 1), (66, .invokevirtual 89, 3), (69, .ireturn, 1)]
theorem tdX8_cups_t0_ok : gz_dec cX8_cups tdX8_cups_t0 = true := by decide +kernel
theorem dX8_cups_0 : decode cX8_cups 0 = .ok (.iload_n 1, 1) := gz_d tdX8_cups_t0_ok 0 rfl
theorem dX8_cups_1 : decode cX8_cups 1 = .ok (.iconst 1, 1) := gz_d tdX8_cups_t0_ok 1 rfl
theorem dX8_cups_2 : decode cX8_cups 2 = .ok (.iconst 3, 1) := gz_d tdX8_cups_t0_ok 2 rfl
theorem dX8_cups_3 : decode cX8_cups 3 = .ok (.invokestatic 82, 3) := gz_d tdX8_cups_t0_ok 3 rfl
theorem dX8_cups_6 : decode cX8_cups 6 = .ok (.ifCond .eq 31, 3) := gz_d tdX8_cups_t0_ok 4 rfl
theorem dX8_cups_9 : decode cX8_cups 9 = .ok (.iload_n 2, 1) := gz_d tdX8_cups_t0_ok 5 rfl
theorem dX8_cups_10 : decode cX8_cups 10 = .ok (.iconst 1, 1) := gz_d tdX8_cups_t0_ok 6 rfl
theorem dX8_cups_11 : decode cX8_cups 11 = .ok (.iconst 3, 1) := gz_d tdX8_cups_t0_ok 7 rfl
theorem dX8_cups_12 : decode cX8_cups 12 = .ok (.invokestatic 82, 3) := gz_d tdX8_cups_t0_ok 8 rfl
theorem dX8_cups_15 : decode cX8_cups 15 = .ok (.ifCond .eq 22, 3) := gz_d tdX8_cups_t0_ok 9 rfl
theorem dX8_cups_18 : decode cX8_cups 18 = .ok (.iload_n 3, 1) := gz_d tdX8_cups_t0_ok 10 rfl
theorem dX8_cups_19 : decode cX8_cups 19 = .ok (.iconst 2, 1) := gz_d tdX8_cups_t0_ok 11 rfl
theorem dX8_cups_20 : decode cX8_cups 20 = .ok (.iconst 4, 1) := gz_d tdX8_cups_t0_ok 12 rfl
theorem dX8_cups_21 : decode cX8_cups 21 = .ok (.invokestatic 82, 3) := gz_d tdX8_cups_t0_ok 13 rfl
theorem dX8_cups_24 : decode cX8_cups 24 = .ok (.ifCond .eq 13, 3) := gz_d tdX8_cups_t0_ok 14 rfl
theorem dX8_cups_27 : decode cX8_cups 27 = .ok (.iload_n 1, 1) := gz_d tdX8_cups_t0_ok 15 rfl
theorem dX8_cups_28 : decode cX8_cups 28 = .ok (.iload_n 2, 1) := gz_d tdX8_cups_t0_ok 16 rfl
theorem dX8_cups_29 : decode cX8_cups 29 = .ok (.iadd, 1) := gz_d tdX8_cups_t0_ok 17 rfl
theorem dX8_cups_30 : decode cX8_cups 30 = .ok (.iload_n 3, 1) := gz_d tdX8_cups_t0_ok 18 rfl
theorem dX8_cups_31 : decode cX8_cups 31 = .ok (.imul, 1) := gz_d tdX8_cups_t0_ok 19 rfl
theorem dX8_cups_32 : decode cX8_cups 32 = .ok (.bipush 8, 2) := gz_d tdX8_cups_t0_ok 20 rfl
theorem dX8_cups_34 : decode cX8_cups 34 = .ok (.if_icmp .le 6, 3) := gz_d tdX8_cups_t0_ok 21 rfl
theorem dX8_cups_37 : decode cX8_cups 37 = .ok (.bipush (-2), 2) := gz_d tdX8_cups_t0_ok 22 rfl
theorem dX8_cups_39 : decode cX8_cups 39 = .ok (.ireturn, 1) := gz_d tdX8_cups_t0_ok 23 rfl
theorem dX8_cups_40 : decode cX8_cups 40 = .ok (.aload_n 0, 1) := gz_d tdX8_cups_t0_ok 24 rfl
theorem dX8_cups_41 : decode cX8_cups 41 = .ok (.iload_n 1, 1) := gz_d tdX8_cups_t0_ok 25 rfl
theorem dX8_cups_42 : decode cX8_cups 42 = .ok (.putfield 7, 3) := gz_d tdX8_cups_t0_ok 26 rfl
theorem dX8_cups_45 : decode cX8_cups 45 = .ok (.aload_n 0, 1) := gz_d tdX8_cups_t0_ok 27 rfl
theorem dX8_cups_46 : decode cX8_cups 46 = .ok (.iload_n 2, 1) := gz_d tdX8_cups_t0_ok 28 rfl
theorem dX8_cups_47 : decode cX8_cups 47 = .ok (.putfield 13, 3) := gz_d tdX8_cups_t0_ok 29 rfl
theorem dX8_cups_50 : decode cX8_cups 50 = .ok (.aload_n 0, 1) := gz_d tdX8_cups_t0_ok 30 rfl
theorem dX8_cups_51 : decode cX8_cups 51 = .ok (.iload_n 3, 1) := gz_d tdX8_cups_t0_ok 31 rfl
theorem dX8_cups_52 : decode cX8_cups 52 = .ok (.putfield 16, 3) := gz_d tdX8_cups_t0_ok 32 rfl
theorem dX8_cups_55 : decode cX8_cups 55 = .ok (.aload_n 0, 1) := gz_d tdX8_cups_t0_ok 33 rfl
theorem dX8_cups_56 : decode cX8_cups 56 = .ok (.iload 4, 2) := gz_d tdX8_cups_t0_ok 34 rfl
theorem dX8_cups_58 : decode cX8_cups 58 = .ok (.putfield 86, 3) := gz_d tdX8_cups_t0_ok 35 rfl
theorem dX8_cups_61 : decode cX8_cups 61 = .ok (.aload_n 0, 1) := gz_d tdX8_cups_t0_ok 36 rfl
theorem dX8_cups_62 : decode cX8_cups 62 = .ok (.invokevirtual 64, 3) := gz_d tdX8_cups_t0_ok 37 rfl
theorem dX8_cups_65 : decode cX8_cups 65 = .ok (.aload_n 0, 1) := gz_d tdX8_cups_t0_ok 38 rfl
theorem dX8_cups_66 : decode cX8_cups 66 = .ok (.invokevirtual 89, 3) := gz_d tdX8_cups_t0_ok 39 rfl
theorem dX8_cups_69 : decode cX8_cups 69 = .ok (.ireturn, 1) := gz_d tdX8_cups_t0_ok 40 rfl
def tdX8_isPlayer_t0 : List (Nat × Instr × Nat) := [(0, .iload_n 0, 1), (1, .iconst 0, 1), (2, .iconst 1, 1), (3, .invokestatic 82, 3), (6, .ireturn, 1)]
theorem tdX8_isPlayer_t0_ok : gz_dec cX8_isPlayer tdX8_isPlayer_t0 = true := by decide +kernel
theorem dX8_isPlayer_0 : decode cX8_isPlayer 0 = .ok (.iload_n 0, 1) := gz_d tdX8_isPlayer_t0_ok 0 rfl
theorem dX8_isPlayer_1 : decode cX8_isPlayer 1 = .ok (.iconst 0, 1) := gz_d tdX8_isPlayer_t0_ok 1 rfl
theorem dX8_isPlayer_2 : decode cX8_isPlayer 2 = .ok (.iconst 1, 1) := gz_d tdX8_isPlayer_t0_ok 2 rfl
theorem dX8_isPlayer_3 : decode cX8_isPlayer 3 = .ok (.invokestatic 82, 3) := gz_d tdX8_isPlayer_t0_ok 3 rfl
theorem dX8_isPlayer_6 : decode cX8_isPlayer 6 = .ok (.ireturn, 1) := gz_d tdX8_isPlayer_t0_ok 4 rfl
def tdX8_isHand_t0 : List (Nat × Instr × Nat) := [(0, .iload_n 1, 1), (1, .invokestatic 93, 3), (4, .ifCond .eq 23, 3), (7, .iload_n 2, 1), (8, .iconst 0, 1), (9, .aload_n 0, 1), (10, .getfield 23, 3), (13, .iload_n 1, 1), (14, .iaload, 1), (15, .iconst 1, 1), (16, .isub, 1), (17, .invokestatic 82, 3), (20, .ifCond .eq 7, 3), (23, .iconst 1, 1), (24, .goto 4, 3), (27, .iconst 0, 1), (28, .ireturn, 1)]
theorem tdX8_isHand_t0_ok : gz_dec cX8_isHand tdX8_isHand_t0 = true := by decide +kernel
theorem dX8_isHand_0 : decode cX8_isHand 0 = .ok (.iload_n 1, 1) := gz_d tdX8_isHand_t0_ok 0 rfl
theorem dX8_isHand_1 : decode cX8_isHand 1 = .ok (.invokestatic 93, 3) := gz_d tdX8_isHand_t0_ok 1 rfl
theorem dX8_isHand_4 : decode cX8_isHand 4 = .ok (.ifCond .eq 23, 3) := gz_d tdX8_isHand_t0_ok 2 rfl
theorem dX8_isHand_7 : decode cX8_isHand 7 = .ok (.iload_n 2, 1) := gz_d tdX8_isHand_t0_ok 3 rfl
theorem dX8_isHand_8 : decode cX8_isHand 8 = .ok (.iconst 0, 1) := gz_d tdX8_isHand_t0_ok 4 rfl
theorem dX8_isHand_9 : decode cX8_isHand 9 = .ok (.aload_n 0, 1) := gz_d tdX8_isHand_t0_ok 5 rfl
theorem dX8_isHand_10 : decode cX8_isHand 10 = .ok (.getfield 23, 3) := gz_d tdX8_isHand_t0_ok 6 rfl
theorem dX8_isHand_13 : decode cX8_isHand 13 = .ok (.iload_n 1, 1) := gz_d tdX8_isHand_t0_ok 7 rfl
theorem dX8_isHand_14 : decode cX8_isHand 14 = .ok (.iaload, 1) := gz_d tdX8_isHand_t0_ok 8 rfl
theorem dX8_isHand_15 : decode cX8_isHand 15 = .ok (.iconst 1, 1) := gz_d tdX8_isHand_t0_ok 9 rfl
theorem dX8_isHand_16 : decode cX8_isHand 16 = .ok (.isub, 1) := gz_d tdX8_isHand_t0_ok 10 rfl
theorem dX8_isHand_17 : decode cX8_isHand 17 = .ok (.invokestatic 82, 3) := gz_d tdX8_isHand_t0_ok 11 rfl
theorem dX8_isHand_20 : decode cX8_isHand 20 = .ok (.ifCond .eq 7, 3) := gz_d tdX8_isHand_t0_ok 12 rfl
theorem dX8_isHand_23 : decode cX8_isHand 23 = .ok (.iconst 1, 1) := gz_d tdX8_isHand_t0_ok 13 rfl
theorem dX8_isHand_24 : decode cX8_isHand 24 = .ok (.goto 4, 3) := gz_d tdX8_isHand_t0_ok 14 rfl
theorem dX8_isHand_27 : decode cX8_isHand 27 = .ok (.iconst 0, 1) := gz_d tdX8_isHand_t0_ok 15 rfl
theorem dX8_isHand_28 : decode cX8_isHand 28 = .ok (.ireturn, 1) := gz_d tdX8_isHand_t0_ok 16 rfl
def tdX8_isBid_t0 : List (Nat × Instr × Nat) := [(0, .iload_n 1, 1), (1, .iconst 0, 1), (2, .aload_n 0, 1), (3, .invokevirtual 89, 3), (6, .iconst 1, 1), (7, .isub, 1), (8, .invokestatic 82, 3), (11, .ireturn, 1)]
theorem tdX8_isBid_t0_ok : gz_dec cX8_isBid tdX8_isBid_t0 = true := by decide +kernel
theorem dX8_isBid_0 : decode cX8_isBid 0 = .ok (.iload_n 1, 1) := gz_d tdX8_isBid_t0_ok 0 rfl
theorem dX8_isBid_1 : decode cX8_isBid 1 = .ok (.iconst 0, 1) := gz_d tdX8_isBid_t0_ok 1 rfl
theorem dX8_isBid_2 : decode cX8_isBid 2 = .ok (.aload_n 0, 1) := gz_d tdX8_isBid_t0_ok 2 rfl
theorem dX8_isBid_3 : decode cX8_isBid 3 = .ok (.invokevirtual 89, 3) := gz_d tdX8_isBid_t0_ok 3 rfl
theorem dX8_isBid_6 : decode cX8_isBid 6 = .ok (.iconst 1, 1) := gz_d tdX8_isBid_t0_ok 4 rfl
theorem dX8_isBid_7 : decode cX8_isBid 7 = .ok (.isub, 1) := gz_d tdX8_isBid_t0_ok 5 rfl
theorem dX8_isBid_8 : decode cX8_isBid 8 = .ok (.invokestatic 82, 3) := gz_d tdX8_isBid_t0_ok 6 rfl
theorem dX8_isBid_11 : decode cX8_isBid 11 = .ok (.ireturn, 1) := gz_d tdX8_isBid_t0_ok 7 rfl
def tdX8_hands_t0 : List (Nat × Instr × Nat) := [(0, .iload_n 1, 1), (1, .invokestatic 93, 3), (4, .ifCond .eq 12, 3), (7, .aload_n 0, 1), (8, .getfield 23, 3), (11, .iload_n 1, 1), (12, .iaload, 1), (13, .goto 5, 3), (16, .bipush (-2), 2), (18, .ireturn, 1)]
theorem tdX8_hands_t0_ok : gz_dec cX8_hands tdX8_hands_t0 = true := by decide +kernel
theorem dX8_hands_0 : decode cX8_hands 0 = .ok (.iload_n 1, 1) := gz_d tdX8_hands_t0_ok 0 rfl
theorem dX8_hands_1 : decode cX8_hands 1 = .ok (.invokestatic 93, 3) := gz_d tdX8_hands_t0_ok 1 rfl
theorem dX8_hands_4 : decode cX8_hands 4 = .ok (.ifCond .eq 12, 3) := gz_d tdX8_hands_t0_ok 2 rfl
theorem dX8_hands_7 : decode cX8_hands 7 = .ok (.aload_n 0, 1) := gz_d tdX8_hands_t0_ok 3 rfl
theorem dX8_hands_8 : decode cX8_hands 8 = .ok (.getfield 23, 3) := gz_d tdX8_hands_t0_ok 4 rfl
theorem dX8_hands_11 : decode cX8_hands 11 = .ok (.iload_n 1, 1) := gz_d tdX8_hands_t0_ok 5 rfl
theorem dX8_hands_12 : decode cX8_hands 12 = .ok (.iaload, 1) := gz_d tdX8_hands_t0_ok 6 rfl
theorem dX8_hands_13 : decode cX8_hands 13 = .ok (.goto 5, 3) := gz_d tdX8_hands_t0_ok 7 rfl
theorem dX8_hands_16 : decode cX8_hands 16 = .ok (.bipush (-2), 2) := gz_d tdX8_hands_t0_ok 8 rfl
theorem dX8_hands_18 : decode cX8_hands 18 = .ok (.ireturn, 1) := gz_d tdX8_hands_t0_ok 9 rfl
def tdX8_hand_t0 : List (Nat × Instr × Nat) := [(0, .aload_n 0, 1), (1, .iload_n 1, 1), (2, .iload_n 2, 1), (3, .invokevirtual 97, 3), (6, .ifCond .eq 35, 3), (9, .iload_n 3, 1), (10, .iconst 0, 1), (11, .aload_n 0, 1), (12, .getfield 16, 3), (15, .iconst 1, 1), (16, .isub, 1), (17, .invokestatic 82, 3), (20, .ifCond .eq 21, 3), (23, .aload_n 0, 1), (24, .getfield 19, 3), (27, .bipush 16, 2), (29, .iload_n 1, 1), (30, .imul, 1), (31, .iconst 4, 1), (32, .iload_n 2, 1), (33, .imul, 1), (34, .iadd, 1), (35, .iload_n 3, 1), (36, .iadd, 1), (37, .iaload, 1), (38, .goto 5, 3), (41, .bipush (-100), 2), (43, .ireturn, 1)]
theorem tdX8_hand_t0_ok : gz_dec cX8_hand tdX8_hand_t0 = true := by decide +kernel
theorem dX8_hand_0 : decode cX8_hand 0 = .ok (.aload_n 0, 1) := gz_d tdX8_hand_t0_ok 0 rfl
theorem dX8_hand_1 : decode cX8_hand 1 = .ok (.iload_n 1, 1) := gz_d tdX8_hand_t0_ok 1 rfl
theorem dX8_hand_2 : decode cX8_hand 2 = .ok (.iload_n 2, 1) := gz_d tdX8_hand_t0_ok 2 rfl
theorem dX8_hand_3 : decode cX8_hand 3 = .ok (.invokevirtual 97, 3) := gz_d tdX8_hand_t0_ok 3 rfl
theorem dX8_hand_6 : decode cX8_hand 6 = .ok (.ifCond .eq 35, 3) := gz_d tdX8_hand_t0_ok 4 rfl
theorem dX8_hand_9 : decode cX8_hand 9 = .ok (.iload_n 3, 1) := gz_d tdX8_hand_t0_ok 5 rfl
theorem dX8_hand_10 : decode cX8_hand 10 = .ok (.iconst 0, 1) := gz_d tdX8_hand_t0_ok 6 rfl
theorem dX8_hand_11 : decode cX8_hand 11 = .ok (.aload_n 0, 1) := gz_d tdX8_hand_t0_ok 7 rfl
theorem dX8_hand_12 : decode cX8_hand 12 = .ok (.getfield 16, 3) := gz_d tdX8_hand_t0_ok 8 rfl
theorem dX8_hand_15 : decode cX8_hand 15 = .ok (.iconst 1, 1) := gz_d tdX8_hand_t0_ok 9 rfl
theorem dX8_hand_16 : decode cX8_hand 16 = .ok (.isub, 1) := gz_d tdX8_hand_t0_ok 10 rfl
theorem dX8_hand_17 : decode cX8_hand 17 = .ok (.invokestatic 82, 3) := gz_d tdX8_hand_t0_ok 11 rfl
theorem dX8_hand_20 : decode cX8_hand 20 = .ok (.ifCond .eq 21, 3) := gz_d tdX8_hand_t0_ok 12 rfl
theorem dX8_hand_23 : decode cX8_hand 23 = .ok (.aload_n 0, 1) := gz_d tdX8_hand_t0_ok 13 rfl
theorem dX8_hand_24 : decode cX8_hand 24 = .ok (.getfield 19, 3) := gz_d tdX8_hand_t0_ok 14 rfl
theorem dX8_hand_27 : decode cX8_hand 27 = .ok (.bipush 16, 2) := gz_d tdX8_hand_t0_ok 15 rfl
theorem dX8_hand_29 : decode cX8_hand 29 = .ok (.iload_n 1, 1) := gz_d tdX8_hand_t0_ok 16 rfl
theorem dX8_hand_30 : decode cX8_hand 30 = .ok (.imul, 1) := gz_d tdX8_hand_t0_ok 17 rfl
theorem dX8_hand_31 : decode cX8_hand 31 = .ok (.iconst 4, 1) := gz_d tdX8_hand_t0_ok 18 rfl
theorem dX8_hand_32 : decode cX8_hand 32 = .ok (.iload_n 2, 1) := gz_d tdX8_hand_t0_ok 19 rfl
theorem dX8_hand_33 : decode cX8_hand 33 = .ok (.imul, 1) := gz_d tdX8_hand_t0_ok 20 rfl
theorem dX8_hand_34 : decode cX8_hand 34 = .ok (.iadd, 1) := gz_d tdX8_hand_t0_ok 21 rfl
theorem dX8_hand_35 : decode cX8_hand 35 = .ok (.iload_n 3, 1) := gz_d tdX8_hand_t0_ok 22 rfl
theorem dX8_hand_36 : decode cX8_hand 36 = .ok (.iadd, 1) := gz_d tdX8_hand_t0_ok 23 rfl
theorem dX8_hand_37 : decode cX8_hand 37 = .ok (.iaload, 1) := gz_d tdX8_hand_t0_ok 24 rfl
theorem dX8_hand_38 : decode cX8_hand 38 = .ok (.goto 5, 3) := gz_d tdX8_hand_t0_ok 25 rfl
theorem dX8_hand_41 : decode cX8_hand 41 = .ok (.bipush (-100), 2) := gz_d tdX8_hand_t0_ok 26 rfl
theorem dX8_hand_43 : decode cX8_hand 43 = .ok (.ireturn, 1) := gz_d tdX8_hand_t0_ok 27 rfl
def tdX8_throwsOf_t0 : List (Nat × Instr × Nat) := [(0, .aload_n 0, 1), (1, .iload_n 1, 1), (2, .iload_n 2, 1), (3, .invokevirtual 97, 3), (6, .ifCond .eq 16, 3), (9, .aload_n 0, 1), (10, .getfield 26, 3), (13, .iconst 4, 1), (14, .iload_n 1, 1), (15, .imul, 1), (16, .iload_n 2, 1), (17, .iadd, 1), (18, .iaload, 1), (19, .goto 5, 3), (22, .bipush (-2), 2), (24, .ireturn, 1)]
theorem tdX8_throwsOf_t0_ok : gz_dec cX8_throwsOf tdX8_throwsOf_t0 = true := by decide +kernel
theorem dX8_throwsOf_0 : decode cX8_throwsOf 0 = .ok (.aload_n 0, 1) := gz_d tdX8_throwsOf_t0_ok 0 rfl
theorem dX8_throwsOf_1 : decode cX8_throwsOf 1 = .ok (.iload_n 1, 1) := gz_d tdX8_throwsOf_t0_ok 1 rfl
theorem dX8_throwsOf_2 : decode cX8_throwsOf 2 = .ok (.iload_n 2, 1) := gz_d tdX8_throwsOf_t0_ok 2 rfl
theorem dX8_throwsOf_3 : decode cX8_throwsOf 3 = .ok (.invokevirtual 97, 3) := gz_d tdX8_throwsOf_t0_ok 3 rfl
theorem dX8_throwsOf_6 : decode cX8_throwsOf 6 = .ok (.ifCond .eq 16, 3) := gz_d tdX8_throwsOf_t0_ok 4 rfl
theorem dX8_throwsOf_9 : decode cX8_throwsOf 9 = .ok (.aload_n 0, 1) := gz_d tdX8_throwsOf_t0_ok 5 rfl
theorem dX8_throwsOf_10 : decode cX8_throwsOf 10 = .ok (.getfield 26, 3) := gz_d tdX8_throwsOf_t0_ok 6 rfl
theorem dX8_throwsOf_13 : decode cX8_throwsOf 13 = .ok (.iconst 4, 1) := gz_d tdX8_throwsOf_t0_ok 7 rfl
theorem dX8_throwsOf_14 : decode cX8_throwsOf 14 = .ok (.iload_n 1, 1) := gz_d tdX8_throwsOf_t0_ok 8 rfl
theorem dX8_throwsOf_15 : decode cX8_throwsOf 15 = .ok (.imul, 1) := gz_d tdX8_throwsOf_t0_ok 9 rfl
theorem dX8_throwsOf_16 : decode cX8_throwsOf 16 = .ok (.iload_n 2, 1) := gz_d tdX8_throwsOf_t0_ok 10 rfl
theorem dX8_throwsOf_17 : decode cX8_throwsOf 17 = .ok (.iadd, 1) := gz_d tdX8_throwsOf_t0_ok 11 rfl
theorem dX8_throwsOf_18 : decode cX8_throwsOf 18 = .ok (.iaload, 1) := gz_d tdX8_throwsOf_t0_ok 12 rfl
theorem dX8_throwsOf_19 : decode cX8_throwsOf 19 = .ok (.goto 5, 3) := gz_d tdX8_throwsOf_t0_ok 13 rfl
theorem dX8_throwsOf_22 : decode cX8_throwsOf 22 = .ok (.bipush (-2), 2) := gz_d tdX8_throwsOf_t0_ok 14 rfl
theorem dX8_throwsOf_24 : decode cX8_throwsOf 24 = .ok (.ireturn, 1) := gz_d tdX8_throwsOf_t0_ok 15 rfl
def tdX8_countsFor_t0 : List (Nat × Instr × Nat) := [(0, .bipush 16, 2), (2, .iload_n 1, 1), (3, .imul, 1), (4, .iconst 4, 1), (5, .iload_n 2, 1), (6, .imul, 1), (7, .iadd, 1), (8, .istore 4, 2), (10, .aload_n 0, 1), (11, .getfield 19, 3), (14, .iload 4, 2), (16, .iload_n 3, 1), (17, .iadd, 1), (18, .iaload, 1), (19, .iload_n 3, 1), (20, .ifCond .le 20, 3), (23, .aload_n 0, 1), (24, .getfield 86, 3), (27, .ifCond .eq 13, 3), (30, .aload_n 0, 1), (31, .getfield 19, 3), (34, .iload 4, 2), (36, .iaload, 1), (37, .goto 4, 3), (40, .iconst 0, 1), (41, .iadd, 1), (42, .ireturn, 1)]
theorem tdX8_countsFor_t0_ok : gz_dec cX8_countsFor tdX8_countsFor_t0 = true := by decide +kernel
theorem dX8_countsFor_0 : decode cX8_countsFor 0 = .ok (.bipush 16, 2) := gz_d tdX8_countsFor_t0_ok 0 rfl
theorem dX8_countsFor_2 : decode cX8_countsFor 2 = .ok (.iload_n 1, 1) := gz_d tdX8_countsFor_t0_ok 1 rfl
theorem dX8_countsFor_3 : decode cX8_countsFor 3 = .ok (.imul, 1) := gz_d tdX8_countsFor_t0_ok 2 rfl
theorem dX8_countsFor_4 : decode cX8_countsFor 4 = .ok (.iconst 4, 1) := gz_d tdX8_countsFor_t0_ok 3 rfl
theorem dX8_countsFor_5 : decode cX8_countsFor 5 = .ok (.iload_n 2, 1) := gz_d tdX8_countsFor_t0_ok 4 rfl
theorem dX8_countsFor_6 : decode cX8_countsFor 6 = .ok (.imul, 1) := gz_d tdX8_countsFor_t0_ok 5 rfl
theorem dX8_countsFor_7 : decode cX8_countsFor 7 = .ok (.iadd, 1) := gz_d tdX8_countsFor_t0_ok 6 rfl
theorem dX8_countsFor_8 : decode cX8_countsFor 8 = .ok (.istore 4, 2) := gz_d tdX8_countsFor_t0_ok 7 rfl
theorem dX8_countsFor_10 : decode cX8_countsFor 10 = .ok (.aload_n 0, 1) := gz_d tdX8_countsFor_t0_ok 8 rfl
theorem dX8_countsFor_11 : decode cX8_countsFor 11 = .ok (.getfield 19, 3) := gz_d tdX8_countsFor_t0_ok 9 rfl
theorem dX8_countsFor_14 : decode cX8_countsFor 14 = .ok (.iload 4, 2) := gz_d tdX8_countsFor_t0_ok 10 rfl
theorem dX8_countsFor_16 : decode cX8_countsFor 16 = .ok (.iload_n 3, 1) := gz_d tdX8_countsFor_t0_ok 11 rfl
theorem dX8_countsFor_17 : decode cX8_countsFor 17 = .ok (.iadd, 1) := gz_d tdX8_countsFor_t0_ok 12 rfl
theorem dX8_countsFor_18 : decode cX8_countsFor 18 = .ok (.iaload, 1) := gz_d tdX8_countsFor_t0_ok 13 rfl
theorem dX8_countsFor_19 : decode cX8_countsFor 19 = .ok (.iload_n 3, 1) := gz_d tdX8_countsFor_t0_ok 14 rfl
theorem dX8_countsFor_20 : decode cX8_countsFor 20 = .ok (.ifCond .le 20, 3) := gz_d tdX8_countsFor_t0_ok 15 rfl
theorem dX8_countsFor_23 : decode cX8_countsFor 23 = .ok (.aload_n 0, 1) := gz_d tdX8_countsFor_t0_ok 16 rfl
theorem dX8_countsFor_24 : decode cX8_countsFor 24 = .ok (.getfield 86, 3) := gz_d tdX8_countsFor_t0_ok 17 rfl
theorem dX8_countsFor_27 : decode cX8_countsFor 27 = .ok (.ifCond .eq 13, 3) := gz_d tdX8_countsFor_t0_ok 18 rfl
theorem dX8_countsFor_30 : decode cX8_countsFor 30 = .ok (.aload_n 0, 1) := gz_d tdX8_countsFor_t0_ok 19 rfl
theorem dX8_countsFor_31 : decode cX8_countsFor 31 = .ok (.getfield 19, 3) := gz_d tdX8_countsFor_t0_ok 20 rfl
theorem dX8_countsFor_34 : decode cX8_countsFor 34 = .ok (.iload 4, 2) := gz_d tdX8_countsFor_t0_ok 21 rfl
theorem dX8_countsFor_36 : decode cX8_countsFor 36 = .ok (.iaload, 1) := gz_d tdX8_countsFor_t0_ok 22 rfl
theorem dX8_countsFor_37 : decode cX8_countsFor 37 = .ok (.goto 4, 3) := gz_d tdX8_countsFor_t0_ok 23 rfl
theorem dX8_countsFor_40 : decode cX8_countsFor 40 = .ok (.iconst 0, 1) := gz_d tdX8_countsFor_t0_ok 24 rfl
theorem dX8_countsFor_41 : decode cX8_countsFor 41 = .ok (.iadd, 1) := gz_d tdX8_countsFor_t0_ok 25 rfl
theorem dX8_countsFor_42 : decode cX8_countsFor 42 = .ok (.ireturn, 1) := gz_d tdX8_countsFor_t0_ok 26 rfl
def tdX8_doesHold_t0 : List (Nat × Instr × Nat) := [(0, .iload_n 3, 1), (1, .aload_n 0, 1), (2, .getfield 16, 3), (5, .irem, 1), (6, .istore 4, 2), (8, .aload_n 0, 1), (9, .iconst 0, 1), (10, .iload_n 1, 1), (11, .iload 4, 2), (13, .invokevirtual 101, 3), (16, .aload_n 0, 1), (17, .iconst 1, 1), (18, .iload_n 2, 1), (19, .iload 4, 2), (21, .invokevirtual 101, 3), (24, .iadd, 1), (25, .iload_n 3, 1), (26, .aload_n 0, 1), (27, .getfield 16, 3), (30, .idiv, 1), (31, .iconst 1, 1), (32, .iadd, 1), (33, .if_icmp .lt 7, 3), (36, .iconst 1, 1), (37, .goto 4, 3), (40, .iconst 0, 1), (41, .ireturn, 1)]
theorem tdX8_doesHold_t0_ok : gz_dec cX8_doesHold tdX8_doesHold_t0 = true := by decide +kernel
theorem dX8_doesHold_0 : decode cX8_doesHold 0 = .ok (.iload_n 3, 1) := gz_d tdX8_doesHold_t0_ok 0 rfl
theorem dX8_doesHold_1 : decode cX8_doesHold 1 = .ok (.aload_n 0, 1) := gz_d tdX8_doesHold_t0_ok 1 rfl
theorem dX8_doesHold_2 : decode cX8_doesHold 2 = .ok (.getfield 16, 3) := gz_d tdX8_doesHold_t0_ok 2 rfl
theorem dX8_doesHold_5 : decode cX8_doesHold 5 = .ok (.irem, 1) := gz_d tdX8_doesHold_t0_ok 3 rfl
theorem dX8_doesHold_6 : decode cX8_doesHold 6 = .ok (.istore 4, 2) := gz_d tdX8_doesHold_t0_ok 4 rfl
theorem dX8_doesHold_8 : decode cX8_doesHold 8 = .ok (.aload_n 0, 1) := gz_d tdX8_doesHold_t0_ok 5 rfl
theorem dX8_doesHold_9 : decode cX8_doesHold 9 = .ok (.iconst 0, 1) := gz_d tdX8_doesHold_t0_ok 6 rfl
theorem dX8_doesHold_10 : decode cX8_doesHold 10 = .ok (.iload_n 1, 1) := gz_d tdX8_doesHold_t0_ok 7 rfl
theorem dX8_doesHold_11 : decode cX8_doesHold 11 = .ok (.iload 4, 2) := gz_d tdX8_doesHold_t0_ok 8 rfl
theorem dX8_doesHold_13 : decode cX8_doesHold 13 = .ok (.invokevirtual 101, 3) := gz_d tdX8_doesHold_t0_ok 9 rfl
theorem dX8_doesHold_16 : decode cX8_doesHold 16 = .ok (.aload_n 0, 1) := gz_d tdX8_doesHold_t0_ok 10 rfl
theorem dX8_doesHold_17 : decode cX8_doesHold 17 = .ok (.iconst 1, 1) := gz_d tdX8_doesHold_t0_ok 11 rfl
theorem dX8_doesHold_18 : decode cX8_doesHold 18 = .ok (.iload_n 2, 1) := gz_d tdX8_doesHold_t0_ok 12 rfl
theorem dX8_doesHold_19 : decode cX8_doesHold 19 = .ok (.iload 4, 2) := gz_d tdX8_doesHold_t0_ok 13 rfl
theorem dX8_doesHold_21 : decode cX8_doesHold 21 = .ok (.invokevirtual 101, 3) := gz_d tdX8_doesHold_t0_ok 14 rfl
theorem dX8_doesHold_24 : decode cX8_doesHold 24 = .ok (.iadd, 1) := gz_d tdX8_doesHold_t0_ok 15 rfl
theorem dX8_doesHold_25 : decode cX8_doesHold 25 = .ok (.iload_n 3, 1) := gz_d tdX8_doesHold_t0_ok 16 rfl
theorem dX8_doesHold_26 : decode cX8_doesHold 26 = .ok (.aload_n 0, 1) := gz_d tdX8_doesHold_t0_ok 17 rfl
theorem dX8_doesHold_27 : decode cX8_doesHold 27 = .ok (.getfield 16, 3) := gz_d tdX8_doesHold_t0_ok 18 rfl
theorem dX8_doesHold_30 : decode cX8_doesHold 30 = .ok (.idiv, 1) := gz_d tdX8_doesHold_t0_ok 19 rfl
theorem dX8_doesHold_31 : decode cX8_doesHold 31 = .ok (.iconst 1, 1) := gz_d tdX8_doesHold_t0_ok 20 rfl
theorem dX8_doesHold_32 : decode cX8_doesHold 32 = .ok (.iadd, 1) := gz_d tdX8_doesHold_t0_ok 21 rfl
theorem dX8_doesHold_33 : decode cX8_doesHold 33 = .ok (.if_icmp .lt 7, 3) := gz_d tdX8_doesHold_t0_ok 22 rfl
theorem dX8_doesHold_36 : decode cX8_doesHold 36 = .ok (.iconst 1, 1) := gz_d tdX8_doesHold_t0_ok 23 rfl
theorem dX8_doesHold_37 : decode cX8_doesHold 37 = .ok (.goto 4, 3) := gz_d tdX8_doesHold_t0_ok 24 rfl
theorem dX8_doesHold_40 : decode cX8_doesHold 40 = .ok (.iconst 0, 1) := gz_d tdX8_doesHold_t0_ok 25 rfl
theorem dX8_doesHold_41 : decode cX8_doesHold 41 = .ok (.ireturn, 1) := gz_d tdX8_doesHold_t0_ok 26 rfl
def tdX8_holds_t0 : List (Nat × Instr × Nat) := [(0, .aload_n 0, 1), (1, .iconst 0, 1), (2, .iload_n 1, 1), (3, .invokevirtual 97, 3), (6, .ifCond .eq 38, 3), (9, .aload_n 0, 1), (10, .iconst 1, 1), (11, .iload_n 2, 1), (12, .invokevirtual 97, 3), (15, .ifCond .eq 29, 3), (18, .aload_n 0, 1), (19, .iload_n 3, 1), (20, .invokevirtual 105, 3), (23, .ifCond .eq 21, 3), (26, .aload_n 0, 1), (27, .iload_n 1, 1), (28, .iload_n 2, 1), (29, .iload_n 3, 1), (30, .invokevirtual 108, 3), (33, .ifCond .eq 7, 3), (36, .iconst 1, 1), (37, .goto 9, 3), (40, .iconst 0, 1), (41, .goto 5, 3), (44, .bipush (-2), 2), (46, .ireturn, 1)]
theorem tdX8_holds_t0_ok : gz_dec cX8_holds tdX8_holds_t0 = true := by decide +kernel
theorem dX8_holds_0 : decode cX8_holds 0 = .ok (.aload_n 0, 1) := gz_d tdX8_holds_t0_ok 0 rfl
theorem dX8_holds_1 : decode cX8_holds 1 = .ok (.iconst 0, 1) := gz_d tdX8_holds_t0_ok 1 rfl
theorem dX8_holds_2 : decode cX8_holds 2 = .ok (.iload_n 1, 1) := gz_d tdX8_holds_t0_ok 2 rfl
theorem dX8_holds_3 : decode cX8_holds 3 = .ok (.invokevirtual 97, 3) := gz_d tdX8_holds_t0_ok 3 rfl
theorem dX8_holds_6 : decode cX8_holds 6 = .ok (.ifCond .eq 38, 3) := gz_d tdX8_holds_t0_ok 4 rfl
theorem dX8_holds_9 : decode cX8_holds 9 = .ok (.aload_n 0, 1) := gz_d tdX8_holds_t0_ok 5 rfl
theorem dX8_holds_10 : decode cX8_holds 10 = .ok (.iconst 1, 1) := gz_d tdX8_holds_t0_ok 6 rfl
theorem dX8_holds_11 : decode cX8_holds 11 = .ok (.iload_n 2, 1) := gz_d tdX8_holds_t0_ok 7 rfl
theorem dX8_holds_12 : decode cX8_holds 12 = .ok (.invokevirtual 97, 3) := gz_d tdX8_holds_t0_ok 8 rfl
theorem dX8_holds_15 : decode cX8_holds 15 = .ok (.ifCond .eq 29, 3) := gz_d tdX8_holds_t0_ok 9 rfl
theorem dX8_holds_18 : decode cX8_holds 18 = .ok (.aload_n 0, 1) := gz_d tdX8_holds_t0_ok 10 rfl
theorem dX8_holds_19 : decode cX8_holds 19 = .ok (.iload_n 3, 1) := gz_d tdX8_holds_t0_ok 11 rfl
theorem dX8_holds_20 : decode cX8_holds 20 = .ok (.invokevirtual 105, 3) := gz_d tdX8_holds_t0_ok 12 rfl
theorem dX8_holds_23 : decode cX8_holds 23 = .ok (.ifCond .eq 21, 3) := gz_d tdX8_holds_t0_ok 13 rfl
theorem dX8_holds_26 : decode cX8_holds 26 = .ok (.aload_n 0, 1) := gz_d tdX8_holds_t0_ok 14 rfl
theorem dX8_holds_27 : decode cX8_holds 27 = .ok (.iload_n 1, 1) := gz_d tdX8_holds_t0_ok 15 rfl
theorem dX8_holds_28 : decode cX8_holds 28 = .ok (.iload_n 2, 1) := gz_d tdX8_holds_t0_ok 16 rfl
theorem dX8_holds_29 : decode cX8_holds 29 = .ok (.iload_n 3, 1) := gz_d tdX8_holds_t0_ok 17 rfl
theorem dX8_holds_30 : decode cX8_holds 30 = .ok (.invokevirtual 108, 3) := gz_d tdX8_holds_t0_ok 18 rfl
theorem dX8_holds_33 : decode cX8_holds 33 = .ok (.ifCond .eq 7, 3) := gz_d tdX8_holds_t0_ok 19 rfl
theorem dX8_holds_36 : decode cX8_holds 36 = .ok (.iconst 1, 1) := gz_d tdX8_holds_t0_ok 20 rfl
theorem dX8_holds_37 : decode cX8_holds 37 = .ok (.goto 9, 3) := gz_d tdX8_holds_t0_ok 21 rfl
theorem dX8_holds_40 : decode cX8_holds 40 = .ok (.iconst 0, 1) := gz_d tdX8_holds_t0_ok 22 rfl
theorem dX8_holds_41 : decode cX8_holds 41 = .ok (.goto 5, 3) := gz_d tdX8_holds_t0_ok 23 rfl
theorem dX8_holds_44 : decode cX8_holds 44 = .ok (.bipush (-2), 2) := gz_d tdX8_holds_t0_ok 24 rfl
theorem dX8_holds_46 : decode cX8_holds 46 = .ok (.ireturn, 1) := gz_d tdX8_holds_t0_ok 25 rfl
def tdX8_throwsFor_t0 : List (Nat × Instr × Nat) := [(0, .iconst 1, 1), (1, .iload_n 1, 1), (2, .isub, 1), (3, .istore 4, 2), (5, .iconst 0, 1), (6, .istore 5, 2), (8, .iconst 0, 1), (9, .istore 6, 2), (11, .iload 6, 2), (13, .aload_n 0, 1), (14, .getfield 23, 3), (17, .iload 4, 2), (19, .iaload, 1), (20, .if_icmp .ge 58, 3), (23, .iload 5, 2), (25, .aload_n 0, 1), (26, .iload_n 1, 1), (27, .ifCond .ne 7, 3), (30, .iload_n 2, 1), (31, .goto 5, 3), (34, .iload 6, 2), (36, .iload_n 1, 1), (37, .ifCond .ne 8, 3), (40, .iload 6, 2), (42, .goto 4, 3), (45, .iload_n 2, 1), (46, .iload_n 3, 1), (47, .invokevirtual 108, 3), (50, .ifCond .eq 18, 3), (53, .aload_n 0, 1), (54, .getfield 26, 3), (57, .iconst 4, 1), (58, .iload 4, 2), (60, .imul, 1), (61, .iload 6, 2), (63, .iadd, 1), (64, .iaload, 1), (65, .goto 4, 3), (68, .iconst 0, 1), (69, .iadd, 1), (70, .istore 5, 2), (72, .iinc 6 1, 3), (75, .goto (-64), 3), (78, .iload 5, 2), (80, .ireturn, 1)]
theorem tdX8_throwsFor_t0_ok : gz_dec cX8_throwsFor tdX8_throwsFor_t0 = true := by decide +kernel
theorem dX8_throwsFor_0 : decode cX8_throwsFor 0 = .ok (.iconst 1, 1) := gz_d tdX8_throwsFor_t0_ok 0 rfl
theorem dX8_throwsFor_1 : decode cX8_throwsFor 1 = .ok (.iload_n 1, 1) := gz_d tdX8_throwsFor_t0_ok 1 rfl
theorem dX8_throwsFor_2 : decode cX8_throwsFor 2 = .ok (.isub, 1) := gz_d tdX8_throwsFor_t0_ok 2 rfl
theorem dX8_throwsFor_3 : decode cX8_throwsFor 3 = .ok (.istore 4, 2) := gz_d tdX8_throwsFor_t0_ok 3 rfl
theorem dX8_throwsFor_5 : decode cX8_throwsFor 5 = .ok (.iconst 0, 1) := gz_d tdX8_throwsFor_t0_ok 4 rfl
theorem dX8_throwsFor_6 : decode cX8_throwsFor 6 = .ok (.istore 5, 2) := gz_d tdX8_throwsFor_t0_ok 5 rfl
theorem dX8_throwsFor_8 : decode cX8_throwsFor 8 = .ok (.iconst 0, 1) := gz_d tdX8_throwsFor_t0_ok 6 rfl
theorem dX8_throwsFor_9 : decode cX8_throwsFor 9 = .ok (.istore 6, 2) := gz_d tdX8_throwsFor_t0_ok 7 rfl
theorem dX8_throwsFor_11 : decode cX8_throwsFor 11 = .ok (.iload 6, 2) := gz_d tdX8_throwsFor_t0_ok 8 rfl
theorem dX8_throwsFor_13 : decode cX8_throwsFor 13 = .ok (.aload_n 0, 1) := gz_d tdX8_throwsFor_t0_ok 9 rfl
theorem dX8_throwsFor_14 : decode cX8_throwsFor 14 = .ok (.getfield 23, 3) := gz_d tdX8_throwsFor_t0_ok 10 rfl
theorem dX8_throwsFor_17 : decode cX8_throwsFor 17 = .ok (.iload 4, 2) := gz_d tdX8_throwsFor_t0_ok 11 rfl
theorem dX8_throwsFor_19 : decode cX8_throwsFor 19 = .ok (.iaload, 1) := gz_d tdX8_throwsFor_t0_ok 12 rfl
theorem dX8_throwsFor_20 : decode cX8_throwsFor 20 = .ok (.if_icmp .ge 58, 3) := gz_d tdX8_throwsFor_t0_ok 13 rfl
theorem dX8_throwsFor_23 : decode cX8_throwsFor 23 = .ok (.iload 5, 2) := gz_d tdX8_throwsFor_t0_ok 14 rfl
theorem dX8_throwsFor_25 : decode cX8_throwsFor 25 = .ok (.aload_n 0, 1) := gz_d tdX8_throwsFor_t0_ok 15 rfl
theorem dX8_throwsFor_26 : decode cX8_throwsFor 26 = .ok (.iload_n 1, 1) := gz_d tdX8_throwsFor_t0_ok 16 rfl
theorem dX8_throwsFor_27 : decode cX8_throwsFor 27 = .ok (.ifCond .ne 7, 3) := gz_d tdX8_throwsFor_t0_ok 17 rfl
theorem dX8_throwsFor_30 : decode cX8_throwsFor 30 = .ok (.iload_n 2, 1) := gz_d tdX8_throwsFor_t0_ok 18 rfl
theorem dX8_throwsFor_31 : decode cX8_throwsFor 31 = .ok (.goto 5, 3) := gz_d tdX8_throwsFor_t0_ok 19 rfl
theorem dX8_throwsFor_34 : decode cX8_throwsFor 34 = .ok (.iload 6, 2) := gz_d tdX8_throwsFor_t0_ok 20 rfl
theorem dX8_throwsFor_36 : decode cX8_throwsFor 36 = .ok (.iload_n 1, 1) := gz_d tdX8_throwsFor_t0_ok 21 rfl
theorem dX8_throwsFor_37 : decode cX8_throwsFor 37 = .ok (.ifCond .ne 8, 3) := gz_d tdX8_throwsFor_t0_ok 22 rfl
theorem dX8_throwsFor_40 : decode cX8_throwsFor 40 = .ok (.iload 6, 2) := gz_d tdX8_throwsFor_t0_ok 23 rfl
theorem dX8_throwsFor_42 : decode cX8_throwsFor 42 = .ok (.goto 4, 3) := gz_d tdX8_throwsFor_t0_ok 24 rfl
theorem dX8_throwsFor_45 : decode cX8_throwsFor 45 = .ok (.iload_n 2, 1) := gz_d tdX8_throwsFor_t0_ok 25 rfl
theorem dX8_throwsFor_46 : decode cX8_throwsFor 46 = .ok (.iload_n 3, 1) := gz_d tdX8_throwsFor_t0_ok 26 rfl
theorem dX8_throwsFor_47 : decode cX8_throwsFor 47 = .ok (.invokevirtual 108, 3) := gz_d tdX8_throwsFor_t0_ok 27 rfl
theorem dX8_throwsFor_50 : decode cX8_throwsFor 50 = .ok (.ifCond .eq 18, 3) := gz_d tdX8_throwsFor_t0_ok 28 rfl
theorem dX8_throwsFor_53 : decode cX8_throwsFor 53 = .ok (.aload_n 0, 1) := gz_d tdX8_throwsFor_t0_ok 29 rfl
theorem dX8_throwsFor_54 : decode cX8_throwsFor 54 = .ok (.getfield 26, 3) := gz_d tdX8_throwsFor_t0_ok 30 rfl
theorem dX8_throwsFor_57 : decode cX8_throwsFor 57 = .ok (.iconst 4, 1) := gz_d tdX8_throwsFor_t0_ok 31 rfl
theorem dX8_throwsFor_58 : decode cX8_throwsFor 58 = .ok (.iload 4, 2) := gz_d tdX8_throwsFor_t0_ok 32 rfl
theorem dX8_throwsFor_60 : decode cX8_throwsFor 60 = .ok (.imul, 1) := gz_d tdX8_throwsFor_t0_ok 33 rfl
theorem dX8_throwsFor_61 : decode cX8_throwsFor 61 = .ok (.iload 6, 2) := gz_d tdX8_throwsFor_t0_ok 34 rfl
theorem dX8_throwsFor_63 : decode cX8_throwsFor 63 = .ok (.iadd, 1) := gz_d tdX8_throwsFor_t0_ok 35 rfl
theorem dX8_throwsFor_64 : decode cX8_throwsFor 64 = .ok (.iaload, 1) := gz_d tdX8_throwsFor_t0_ok 36 rfl
theorem dX8_throwsFor_65 : decode cX8_throwsFor 65 = .ok (.goto 4, 3) := gz_d tdX8_throwsFor_t0_ok 37 rfl
theorem dX8_throwsFor_68 : decode cX8_throwsFor 68 = .ok (.iconst 0, 1) := gz_d tdX8_throwsFor_t0_ok 38 rfl
theorem dX8_throwsFor_69 : decode cX8_throwsFor 69 = .ok (.iadd, 1) := gz_d tdX8_throwsFor_t0_ok 39 rfl
theorem dX8_throwsFor_70 : decode cX8_throwsFor 70 = .ok (.istore 5, 2) := gz_d tdX8_throwsFor_t0_ok 40 rfl
theorem dX8_throwsFor_72 : decode cX8_throwsFor 72 = .ok (.iinc 6 1, 3) := gz_d tdX8_throwsFor_t0_ok 41 rfl
theorem dX8_throwsFor_75 : decode cX8_throwsFor 75 = .ok (.goto (-64), 3) := gz_d tdX8_throwsFor_t0_ok 42 rfl
theorem dX8_throwsFor_78 : decode cX8_throwsFor 78 = .ok (.iload 5, 2) := gz_d tdX8_throwsFor_t0_ok 43 rfl
theorem dX8_throwsFor_80 : decode cX8_throwsFor 80 = .ok (.ireturn, 1) := gz_d tdX8_throwsFor_t0_ok 44 rfl
def tdX8_power_t0 : List (Nat × Instr × Nat) := [(0, .iconst 1, 1), (1, .istore_n 2, 1), (2, .iconst 0, 1), (3, .istore_n 3, 1), (4, .iload_n 3, 1), (5, .iload_n 1, 1), (6, .if_icmp .ge 16, 3), (9, .iload_n 2, 1), (10, .aload_n 0, 1), (11, .getfield 16, 3), (14, .imul, 1), (15, .istore_n 2, 1), (16, .iinc 3 1, 3), (19, .goto (-15), 3), (22, .iload_n 2, 1), (23, .ireturn, 1)]
theorem tdX8_power_t0_ok : gz_dec cX8_power tdX8_power_t0 = true := by decide +kernel
theorem dX8_power_0 : decode cX8_power 0 = .ok (.iconst 1, 1) := gz_d tdX8_power_t0_ok 0 rfl
theorem dX8_power_1 : decode cX8_power 1 = .ok (.istore_n 2, 1) := gz_d tdX8_power_t0_ok 1 rfl
theorem dX8_power_2 : decode cX8_power 2 = .ok (.iconst 0, 1) := gz_d tdX8_power_t0_ok 2 rfl
theorem dX8_power_3 : decode cX8_power 3 = .ok (.istore_n 3, 1) := gz_d tdX8_power_t0_ok 3 rfl
theorem dX8_power_4 : decode cX8_power 4 = .ok (.iload_n 3, 1) := gz_d tdX8_power_t0_ok 4 rfl
theorem dX8_power_5 : decode cX8_power 5 = .ok (.iload_n 1, 1) := gz_d tdX8_power_t0_ok 5 rfl
theorem dX8_power_6 : decode cX8_power 6 = .ok (.if_icmp .ge 16, 3) := gz_d tdX8_power_t0_ok 6 rfl
theorem dX8_power_9 : decode cX8_power 9 = .ok (.iload_n 2, 1) := gz_d tdX8_power_t0_ok 7 rfl
theorem dX8_power_10 : decode cX8_power 10 = .ok (.aload_n 0, 1) := gz_d tdX8_power_t0_ok 8 rfl
theorem dX8_power_11 : decode cX8_power 11 = .ok (.getfield 16, 3) := gz_d tdX8_power_t0_ok 9 rfl
theorem dX8_power_14 : decode cX8_power 14 = .ok (.imul, 1) := gz_d tdX8_power_t0_ok 10 rfl
theorem dX8_power_15 : decode cX8_power 15 = .ok (.istore_n 2, 1) := gz_d tdX8_power_t0_ok 11 rfl
theorem dX8_power_16 : decode cX8_power 16 = .ok (.iinc 3 1, 3) := gz_d tdX8_power_t0_ok 12 rfl
theorem dX8_power_19 : decode cX8_power 19 = .ok (.goto (-15), 3) := gz_d tdX8_power_t0_ok 13 rfl
theorem dX8_power_22 : decode cX8_power 22 = .ok (.iload_n 2, 1) := gz_d tdX8_power_t0_ok 14 rfl
theorem dX8_power_23 : decode cX8_power 23 = .ok (.ireturn, 1) := gz_d tdX8_power_t0_ok 15 rfl
def tdX8_chance_t0 : List (Nat × Instr × Nat) := [(0, .aload_n 0, 1), (1, .iload_n 1, 1), (2, .iload_n 2, 1), (3, .invokevirtual 97, 3), (6, .ifCond .eq 21, 3), (9, .aload_n 0, 1), (10, .iload_n 3, 1), (11, .invokevirtual 105, 3), (14, .ifCond .eq 13, 3), (17, .iload 4, 2), (19, .iconst 0, 1), (20, .iconst 1, 1), (21, .invokestatic 82, 3), (24, .ifCond .ne 6, 3), (27, .bipush (-2), 2), (29, .ireturn, 1), (30, .aload_n 0, 1), (31, .iload_n 1, 1), (32, .iload_n 2, 1), (33, .iload_n 3, 1), (34, .invokevirtual 111, 3), (37, .istore 5, 2), (39, .aload_n 0, 1), (40, .aload_n 0, 1), (41, .iconst 1, 1), (42, .iload_n 1, 1), (43, .isub, 1), (44, .invokevirtual 67, 3), (47, .invokevirtual 114, 3), (50, .istore 6, 2), (52, .iload 5, 2), (54, .istore 7, 2), (56, .iload 6, 2), (58, .istore 8, 2), (60, .iload 8, 2), (62, .ifCond .eq 21, 3), (65, .iload 7, 2), (67, .iload 8, 2), (69, .irem, 1), (70, .istore 9, 2), (72, .iload 8, 2), (74, .istore 7, 2), (76, .iload 9, 2), (78, .istore 8, 2), (80, .goto (-20), 3), (83, .iload 4, 2), (85, .ifCond .ne 11, 3), (88, .iload 5, 2), (90, .iload 7, 2), (92, .idiv, 1), (93, .goto 8, 3), (96, .iload 6, 2), (98, .iload 7, 2), (100, .idiv, 1), (101, .ireturn, 1)]
theorem tdX8_chance_t0_ok : gz_dec cX8_chance tdX8_chance_t0 = true := by decide +kernel
theorem dX8_chance_0 : decode cX8_chance 0 = .ok (.aload_n 0, 1) := gz_d tdX8_chance_t0_ok 0 rfl
theorem dX8_chance_1 : decode cX8_chance 1 = .ok (.iload_n 1, 1) := gz_d tdX8_chance_t0_ok 1 rfl
theorem dX8_chance_2 : decode cX8_chance 2 = .ok (.iload_n 2, 1) := gz_d tdX8_chance_t0_ok 2 rfl
theorem dX8_chance_3 : decode cX8_chance 3 = .ok (.invokevirtual 97, 3) := gz_d tdX8_chance_t0_ok 3 rfl
theorem dX8_chance_6 : decode cX8_chance 6 = .ok (.ifCond .eq 21, 3) := gz_d tdX8_chance_t0_ok 4 rfl
theorem dX8_chance_9 : decode cX8_chance 9 = .ok (.aload_n 0, 1) := gz_d tdX8_chance_t0_ok 5 rfl
theorem dX8_chance_10 : decode cX8_chance 10 = .ok (.iload_n 3, 1) := gz_d tdX8_chance_t0_ok 6 rfl
theorem dX8_chance_11 : decode cX8_chance 11 = .ok (.invokevirtual 105, 3) := gz_d tdX8_chance_t0_ok 7 rfl
theorem dX8_chance_14 : decode cX8_chance 14 = .ok (.ifCond .eq 13, 3) := gz_d tdX8_chance_t0_ok 8 rfl
theorem dX8_chance_17 : decode cX8_chance 17 = .ok (.iload 4, 2) := gz_d tdX8_chance_t0_ok 9 rfl
theorem dX8_chance_19 : decode cX8_chance 19 = .ok (.iconst 0, 1) := gz_d tdX8_chance_t0_ok 10 rfl
theorem dX8_chance_20 : decode cX8_chance 20 = .ok (.iconst 1, 1) := gz_d tdX8_chance_t0_ok 11 rfl
theorem dX8_chance_21 : decode cX8_chance 21 = .ok (.invokestatic 82, 3) := gz_d tdX8_chance_t0_ok 12 rfl
theorem dX8_chance_24 : decode cX8_chance 24 = .ok (.ifCond .ne 6, 3) := gz_d tdX8_chance_t0_ok 13 rfl
theorem dX8_chance_27 : decode cX8_chance 27 = .ok (.bipush (-2), 2) := gz_d tdX8_chance_t0_ok 14 rfl
theorem dX8_chance_29 : decode cX8_chance 29 = .ok (.ireturn, 1) := gz_d tdX8_chance_t0_ok 15 rfl
theorem dX8_chance_30 : decode cX8_chance 30 = .ok (.aload_n 0, 1) := gz_d tdX8_chance_t0_ok 16 rfl
theorem dX8_chance_31 : decode cX8_chance 31 = .ok (.iload_n 1, 1) := gz_d tdX8_chance_t0_ok 17 rfl
theorem dX8_chance_32 : decode cX8_chance 32 = .ok (.iload_n 2, 1) := gz_d tdX8_chance_t0_ok 18 rfl
theorem dX8_chance_33 : decode cX8_chance 33 = .ok (.iload_n 3, 1) := gz_d tdX8_chance_t0_ok 19 rfl
theorem dX8_chance_34 : decode cX8_chance 34 = .ok (.invokevirtual 111, 3) := gz_d tdX8_chance_t0_ok 20 rfl
theorem dX8_chance_37 : decode cX8_chance 37 = .ok (.istore 5, 2) := gz_d tdX8_chance_t0_ok 21 rfl
theorem dX8_chance_39 : decode cX8_chance 39 = .ok (.aload_n 0, 1) := gz_d tdX8_chance_t0_ok 22 rfl
theorem dX8_chance_40 : decode cX8_chance 40 = .ok (.aload_n 0, 1) := gz_d tdX8_chance_t0_ok 23 rfl
theorem dX8_chance_41 : decode cX8_chance 41 = .ok (.iconst 1, 1) := gz_d tdX8_chance_t0_ok 24 rfl
theorem dX8_chance_42 : decode cX8_chance 42 = .ok (.iload_n 1, 1) := gz_d tdX8_chance_t0_ok 25 rfl
theorem dX8_chance_43 : decode cX8_chance 43 = .ok (.isub, 1) := gz_d tdX8_chance_t0_ok 26 rfl
theorem dX8_chance_44 : decode cX8_chance 44 = .ok (.invokevirtual 67, 3) := gz_d tdX8_chance_t0_ok 27 rfl
theorem dX8_chance_47 : decode cX8_chance 47 = .ok (.invokevirtual 114, 3) := gz_d tdX8_chance_t0_ok 28 rfl
theorem dX8_chance_50 : decode cX8_chance 50 = .ok (.istore 6, 2) := gz_d tdX8_chance_t0_ok 29 rfl
theorem dX8_chance_52 : decode cX8_chance 52 = .ok (.iload 5, 2) := gz_d tdX8_chance_t0_ok 30 rfl
theorem dX8_chance_54 : decode cX8_chance 54 = .ok (.istore 7, 2) := gz_d tdX8_chance_t0_ok 31 rfl
theorem dX8_chance_56 : decode cX8_chance 56 = .ok (.iload 6, 2) := gz_d tdX8_chance_t0_ok 32 rfl
theorem dX8_chance_58 : decode cX8_chance 58 = .ok (.istore 8, 2) := gz_d tdX8_chance_t0_ok 33 rfl
theorem dX8_chance_60 : decode cX8_chance 60 = .ok (.iload 8, 2) := gz_d tdX8_chance_t0_ok 34 rfl
theorem dX8_chance_62 : decode cX8_chance 62 = .ok (.ifCond .eq 21, 3) := gz_d tdX8_chance_t0_ok 35 rfl
theorem dX8_chance_65 : decode cX8_chance 65 = .ok (.iload 7, 2) := gz_d tdX8_chance_t0_ok 36 rfl
theorem dX8_chance_67 : decode cX8_chance 67 = .ok (.iload 8, 2) := gz_d tdX8_chance_t0_ok 37 rfl
theorem dX8_chance_69 : decode cX8_chance 69 = .ok (.irem, 1) := gz_d tdX8_chance_t0_ok 38 rfl
theorem dX8_chance_70 : decode cX8_chance 70 = .ok (.istore 9, 2) := gz_d tdX8_chance_t0_ok 39 rfl
theorem dX8_chance_72 : decode cX8_chance 72 = .ok (.iload 8, 2) := gz_d tdX8_chance_t0_ok 40 rfl
theorem dX8_chance_74 : decode cX8_chance 74 = .ok (.istore 7, 2) := gz_d tdX8_chance_t0_ok 41 rfl
theorem dX8_chance_76 : decode cX8_chance 76 = .ok (.iload 9, 2) := gz_d tdX8_chance_t0_ok 42 rfl
theorem dX8_chance_78 : decode cX8_chance 78 = .ok (.istore 8, 2) := gz_d tdX8_chance_t0_ok 43 rfl
theorem dX8_chance_80 : decode cX8_chance 80 = .ok (.goto (-20), 3) := gz_d tdX8_chance_t0_ok 44 rfl
theorem dX8_chance_83 : decode cX8_chance 83 = .ok (.iload 4, 2) := gz_d tdX8_chance_t0_ok 45 rfl
theorem dX8_chance_85 : decode cX8_chance 85 = .ok (.ifCond .ne 11, 3) := gz_d tdX8_chance_t0_ok 46 rfl
theorem dX8_chance_88 : decode cX8_chance 88 = .ok (.iload 5, 2) := gz_d tdX8_chance_t0_ok 47 rfl
theorem dX8_chance_90 : decode cX8_chance 90 = .ok (.iload 7, 2) := gz_d tdX8_chance_t0_ok 48 rfl
theorem dX8_chance_92 : decode cX8_chance 92 = .ok (.idiv, 1) := gz_d tdX8_chance_t0_ok 49 rfl
theorem dX8_chance_93 : decode cX8_chance 93 = .ok (.goto 8, 3) := gz_d tdX8_chance_t0_ok 50 rfl
theorem dX8_chance_96 : decode cX8_chance 96 = .ok (.iload 6, 2) := gz_d tdX8_chance_t0_ok 51 rfl
theorem dX8_chance_98 : decode cX8_chance 98 = .ok (.iload 7, 2) := gz_d tdX8_chance_t0_ok 52 rfl
theorem dX8_chance_100 : decode cX8_chance 100 = .ok (.idiv, 1) := gz_d tdX8_chance_t0_ok 53 rfl
theorem dX8_chance_101 : decode cX8_chance 101 = .ok (.ireturn, 1) := gz_d tdX8_chance_t0_ok 54 rfl
def tdX8_surest_t0 : List (Nat × Instr × Nat) := [(0, .aload_n 0, 1), (1, .iload_n 1, 1), (2, .iload_n 2, 1), (3, .invokevirtual 97, 3), (6, .ifCond .eq 24, 3), (9, .iload_n 3, 1), (10, .iconst 1, 1), (11, .bipush 100, 2), (13, .invokestatic 82, 3), (16, .ifCond .eq 14, 3), (19, .iload 4, 2), (21, .iconst 1, 1), (22, .bipush 100, 2), (24, .invokestatic 82, 3), (27, .ifCond .ne 6, 3), (30, .bipush (-2), 2), (32, .ireturn, 1), (33, .aload_n 0, 1), (34, .aload_n 0, 1), (35, .iconst 1, 1), (36, .iload_n 1, 1), (37, .isub, 1), (38, .invokevirtual 67, 3), (41, .invokevirtual 114, 3), (44, .istore 5, 2), (46, .aload_n 0, 1), (47, .invokevirtual 89, 3), (50, .iconst 1, 1), (51, .isub, 1), (52, .istore 6, 2), (54, .iload 6, 2), (56, .ifCond .lt 30, 3), (59, .aload_n 0, 1), (60, .iload_n 1, 1), (61, .iload_n 2, 1), (62, .iload 6, 2), (64, .invokevirtual 111, 3), (67, .iload 4, 2), (69, .imul, 1), (70, .iload_n 3, 1), (71, .iload 5, 2), (73, .imul, 1), (74, .if_icmp .lt 6, 3), (77, .iload 6, 2), (79, .ireturn, 1), (80, .iinc 6 (-1), 3), (83, .goto (-29), 3), (86, .iconst (-1), 1), (87, .ireturn, 1)]
theorem tdX8_surest_t0_ok : gz_dec cX8_surest tdX8_surest_t0 = true := by decide +kernel
theorem dX8_surest_0 : decode cX8_surest 0 = .ok (.aload_n 0, 1) := gz_d tdX8_surest_t0_ok 0 rfl
theorem dX8_surest_1 : decode cX8_surest 1 = .ok (.iload_n 1, 1) := gz_d tdX8_surest_t0_ok 1 rfl
theorem dX8_surest_2 : decode cX8_surest 2 = .ok (.iload_n 2, 1) := gz_d tdX8_surest_t0_ok 2 rfl
theorem dX8_surest_3 : decode cX8_surest 3 = .ok (.invokevirtual 97, 3) := gz_d tdX8_surest_t0_ok 3 rfl
theorem dX8_surest_6 : decode cX8_surest 6 = .ok (.ifCond .eq 24, 3) := gz_d tdX8_surest_t0_ok 4 rfl
theorem dX8_surest_9 : decode cX8_surest 9 = .ok (.iload_n 3, 1) := gz_d tdX8_surest_t0_ok 5 rfl
theorem dX8_surest_10 : decode cX8_surest 10 = .ok (.iconst 1, 1) := gz_d tdX8_surest_t0_ok 6 rfl
theorem dX8_surest_11 : decode cX8_surest 11 = .ok (.bipush 100, 2) := gz_d tdX8_surest_t0_ok 7 rfl
theorem dX8_surest_13 : decode cX8_surest 13 = .ok (.invokestatic 82, 3) := gz_d tdX8_surest_t0_ok 8 rfl
theorem dX8_surest_16 : decode cX8_surest 16 = .ok (.ifCond .eq 14, 3) := gz_d tdX8_surest_t0_ok 9 rfl
theorem dX8_surest_19 : decode cX8_surest 19 = .ok (.iload 4, 2) := gz_d tdX8_surest_t0_ok 10 rfl
theorem dX8_surest_21 : decode cX8_surest 21 = .ok (.iconst 1, 1) := gz_d tdX8_surest_t0_ok 11 rfl
theorem dX8_surest_22 : decode cX8_surest 22 = .ok (.bipush 100, 2) := gz_d tdX8_surest_t0_ok 12 rfl
theorem dX8_surest_24 : decode cX8_surest 24 = .ok (.invokestatic 82, 3) := gz_d tdX8_surest_t0_ok 13 rfl
theorem dX8_surest_27 : decode cX8_surest 27 = .ok (.ifCond .ne 6, 3) := gz_d tdX8_surest_t0_ok 14 rfl
theorem dX8_surest_30 : decode cX8_surest 30 = .ok (.bipush (-2), 2) := gz_d tdX8_surest_t0_ok 15 rfl
theorem dX8_surest_32 : decode cX8_surest 32 = .ok (.ireturn, 1) := gz_d tdX8_surest_t0_ok 16 rfl
theorem dX8_surest_33 : decode cX8_surest 33 = .ok (.aload_n 0, 1) := gz_d tdX8_surest_t0_ok 17 rfl
theorem dX8_surest_34 : decode cX8_surest 34 = .ok (.aload_n 0, 1) := gz_d tdX8_surest_t0_ok 18 rfl
theorem dX8_surest_35 : decode cX8_surest 35 = .ok (.iconst 1, 1) := gz_d tdX8_surest_t0_ok 19 rfl
theorem dX8_surest_36 : decode cX8_surest 36 = .ok (.iload_n 1, 1) := gz_d tdX8_surest_t0_ok 20 rfl
theorem dX8_surest_37 : decode cX8_surest 37 = .ok (.isub, 1) := gz_d tdX8_surest_t0_ok 21 rfl
theorem dX8_surest_38 : decode cX8_surest 38 = .ok (.invokevirtual 67, 3) := gz_d tdX8_surest_t0_ok 22 rfl
theorem dX8_surest_41 : decode cX8_surest 41 = .ok (.invokevirtual 114, 3) := gz_d tdX8_surest_t0_ok 23 rfl
theorem dX8_surest_44 : decode cX8_surest 44 = .ok (.istore 5, 2) := gz_d tdX8_surest_t0_ok 24 rfl
theorem dX8_surest_46 : decode cX8_surest 46 = .ok (.aload_n 0, 1) := gz_d tdX8_surest_t0_ok 25 rfl
theorem dX8_surest_47 : decode cX8_surest 47 = .ok (.invokevirtual 89, 3) := gz_d tdX8_surest_t0_ok 26 rfl
theorem dX8_surest_50 : decode cX8_surest 50 = .ok (.iconst 1, 1) := gz_d tdX8_surest_t0_ok 27 rfl
theorem dX8_surest_51 : decode cX8_surest 51 = .ok (.isub, 1) := gz_d tdX8_surest_t0_ok 28 rfl
theorem dX8_surest_52 : decode cX8_surest 52 = .ok (.istore 6, 2) := gz_d tdX8_surest_t0_ok 29 rfl
theorem dX8_surest_54 : decode cX8_surest 54 = .ok (.iload 6, 2) := gz_d tdX8_surest_t0_ok 30 rfl
theorem dX8_surest_56 : decode cX8_surest 56 = .ok (.ifCond .lt 30, 3) := gz_d tdX8_surest_t0_ok 31 rfl
theorem dX8_surest_59 : decode cX8_surest 59 = .ok (.aload_n 0, 1) := gz_d tdX8_surest_t0_ok 32 rfl
theorem dX8_surest_60 : decode cX8_surest 60 = .ok (.iload_n 1, 1) := gz_d tdX8_surest_t0_ok 33 rfl
theorem dX8_surest_61 : decode cX8_surest 61 = .ok (.iload_n 2, 1) := gz_d tdX8_surest_t0_ok 34 rfl
theorem dX8_surest_62 : decode cX8_surest 62 = .ok (.iload 6, 2) := gz_d tdX8_surest_t0_ok 35 rfl
theorem dX8_surest_64 : decode cX8_surest 64 = .ok (.invokevirtual 111, 3) := gz_d tdX8_surest_t0_ok 36 rfl
theorem dX8_surest_67 : decode cX8_surest 67 = .ok (.iload 4, 2) := gz_d tdX8_surest_t0_ok 37 rfl
theorem dX8_surest_69 : decode cX8_surest 69 = .ok (.imul, 1) := gz_d tdX8_surest_t0_ok 38 rfl
theorem dX8_surest_70 : decode cX8_surest 70 = .ok (.iload_n 3, 1) := gz_d tdX8_surest_t0_ok 39 rfl
theorem dX8_surest_71 : decode cX8_surest 71 = .ok (.iload 5, 2) := gz_d tdX8_surest_t0_ok 40 rfl
theorem dX8_surest_73 : decode cX8_surest 73 = .ok (.imul, 1) := gz_d tdX8_surest_t0_ok 41 rfl
theorem dX8_surest_74 : decode cX8_surest 74 = .ok (.if_icmp .lt 6, 3) := gz_d tdX8_surest_t0_ok 42 rfl
theorem dX8_surest_77 : decode cX8_surest 77 = .ok (.iload 6, 2) := gz_d tdX8_surest_t0_ok 43 rfl
theorem dX8_surest_79 : decode cX8_surest 79 = .ok (.ireturn, 1) := gz_d tdX8_surest_t0_ok 44 rfl
theorem dX8_surest_80 : decode cX8_surest 80 = .ok (.iinc 6 (-1), 3) := gz_d tdX8_surest_t0_ok 45 rfl
theorem dX8_surest_83 : decode cX8_surest 83 = .ok (.goto (-29), 3) := gz_d tdX8_surest_t0_ok 46 rfl
theorem dX8_surest_86 : decode cX8_surest 86 = .ok (.iconst (-1), 1) := gz_d tdX8_surest_t0_ok 47 rfl
theorem dX8_surest_87 : decode cX8_surest 87 = .ok (.ireturn, 1) := gz_d tdX8_surest_t0_ok 48 rfl
def tdX8_isPlan_t0 : List (Nat × Instr × Nat) := [(0, .iload_n 0, 1), (1, .iconst 0, 1), (2, .iconst 3, 1), (3, .invokestatic 82, 3), (6, .ireturn, 1)]
theorem tdX8_isPlan_t0_ok : gz_dec cX8_isPlan tdX8_isPlan_t0 = true := by decide +kernel
theorem dX8_isPlan_0 : decode cX8_isPlan 0 = .ok (.iload_n 0, 1) := gz_d tdX8_isPlan_t0_ok 0 rfl
theorem dX8_isPlan_1 : decode cX8_isPlan 1 = .ok (.iconst 0, 1) := gz_d tdX8_isPlan_t0_ok 1 rfl
theorem dX8_isPlan_2 : decode cX8_isPlan 2 = .ok (.iconst 3, 1) := gz_d tdX8_isPlan_t0_ok 2 rfl
theorem dX8_isPlan_3 : decode cX8_isPlan 3 = .ok (.invokestatic 82, 3) := gz_d tdX8_isPlan_t0_ok 3 rfl
theorem dX8_isPlan_6 : decode cX8_isPlan 6 = .ok (.ireturn, 1) := gz_d tdX8_isPlan_t0_ok 4 rfl
def tdX8_mayMove_t0 : List (Nat × Instr × Nat) := [(0, .iload_n 2, 1), (1, .iconst (-1), 1), (2, .if_icmp .ne 16, 3), (5, .iload_n 1, 1), (6, .iconst (-1), 1), (7, .if_icmp .eq 7, 3), (10, .iconst 1, 1), (11, .goto 25, 3), (14, .iconst 0, 1), (15, .goto 21, 3), (18, .aload_n 0, 1), (19, .iload_n 2, 1), (20, .invokevirtual 105, 3), (23, .ifCond .eq 12, 3), (26, .iload_n 2, 1), (27, .iload_n 1, 1), (28, .if_icmp .le 7, 3), (31, .iconst 1, 1), (32, .goto 4, 3), (35, .iconst 0, 1), (36, .ireturn, 1)]
theorem tdX8_mayMove_t0_ok : gz_dec cX8_mayMove tdX8_mayMove_t0 = true := by decide +kernel
theorem dX8_mayMove_0 : decode cX8_mayMove 0 = .ok (.iload_n 2, 1) := gz_d tdX8_mayMove_t0_ok 0 rfl
theorem dX8_mayMove_1 : decode cX8_mayMove 1 = .ok (.iconst (-1), 1) := gz_d tdX8_mayMove_t0_ok 1 rfl
theorem dX8_mayMove_2 : decode cX8_mayMove 2 = .ok (.if_icmp .ne 16, 3) := gz_d tdX8_mayMove_t0_ok 2 rfl
theorem dX8_mayMove_5 : decode cX8_mayMove 5 = .ok (.iload_n 1, 1) := gz_d tdX8_mayMove_t0_ok 3 rfl
theorem dX8_mayMove_6 : decode cX8_mayMove 6 = .ok (.iconst (-1), 1) := gz_d tdX8_mayMove_t0_ok 4 rfl
theorem dX8_mayMove_7 : decode cX8_mayMove 7 = .ok (.if_icmp .eq 7, 3) := gz_d tdX8_mayMove_t0_ok 5 rfl
theorem dX8_mayMove_10 : decode cX8_mayMove 10 = .ok (.iconst 1, 1) := gz_d tdX8_mayMove_t0_ok 6 rfl
theorem dX8_mayMove_11 : decode cX8_mayMove 11 = .ok (.goto 25, 3) := gz_d tdX8_mayMove_t0_ok 7 rfl
theorem dX8_mayMove_14 : decode cX8_mayMove 14 = .ok (.iconst 0, 1) := gz_d tdX8_mayMove_t0_ok 8 rfl
theorem dX8_mayMove_15 : decode cX8_mayMove 15 = .ok (.goto 21, 3) := gz_d tdX8_mayMove_t0_ok 9 rfl
theorem dX8_mayMove_18 : decode cX8_mayMove 18 = .ok (.aload_n 0, 1) := gz_d tdX8_mayMove_t0_ok 10 rfl
theorem dX8_mayMove_19 : decode cX8_mayMove 19 = .ok (.iload_n 2, 1) := gz_d tdX8_mayMove_t0_ok 11 rfl
theorem dX8_mayMove_20 : decode cX8_mayMove 20 = .ok (.invokevirtual 105, 3) := gz_d tdX8_mayMove_t0_ok 12 rfl
theorem dX8_mayMove_23 : decode cX8_mayMove 23 = .ok (.ifCond .eq 12, 3) := gz_d tdX8_mayMove_t0_ok 13 rfl
theorem dX8_mayMove_26 : decode cX8_mayMove 26 = .ok (.iload_n 2, 1) := gz_d tdX8_mayMove_t0_ok 14 rfl
theorem dX8_mayMove_27 : decode cX8_mayMove 27 = .ok (.iload_n 1, 1) := gz_d tdX8_mayMove_t0_ok 15 rfl
theorem dX8_mayMove_28 : decode cX8_mayMove 28 = .ok (.if_icmp .le 7, 3) := gz_d tdX8_mayMove_t0_ok 16 rfl
theorem dX8_mayMove_31 : decode cX8_mayMove 31 = .ok (.iconst 1, 1) := gz_d tdX8_mayMove_t0_ok 17 rfl
theorem dX8_mayMove_32 : decode cX8_mayMove 32 = .ok (.goto 4, 3) := gz_d tdX8_mayMove_t0_ok 18 rfl
theorem dX8_mayMove_35 : decode cX8_mayMove 35 = .ok (.iconst 0, 1) := gz_d tdX8_mayMove_t0_ok 19 rfl
theorem dX8_mayMove_36 : decode cX8_mayMove 36 = .ok (.ireturn, 1) := gz_d tdX8_mayMove_t0_ok 20 rfl
def tdX8_at_t0 : List (Nat × Instr × Nat) := [(0, .iload_n 1, 1), (1, .iconst 3, 1), (2, .imul, 1), (3, .aload_n 0, 1), (4, .iload_n 2, 1), (5, .invokevirtual 67, 3), (8, .iadd, 1), (9, .iconst 1, 1), (10, .isub, 1), (11, .iconst 4, 1), (12, .imul, 1), (13, .iload_n 3, 1), (14, .iadd, 1), (15, .bipush 9, 2), (17, .imul, 1), (18, .iload 4, 2), (20, .iadd, 1), (21, .iconst 1, 1), (22, .iadd, 1), (23, .bipush 9, 2), (25, .imul, 1), (26, .iload 5, 2), (28, .iadd, 1), (29, .iconst 1, 1), (30, .iadd, 1), (31, .ireturn, 1)]
theorem tdX8_at_t0_ok : gz_dec cX8_at tdX8_at_t0 = true := by decide +kernel
theorem dX8_at_0 : decode cX8_at 0 = .ok (.iload_n 1, 1) := gz_d tdX8_at_t0_ok 0 rfl
theorem dX8_at_1 : decode cX8_at 1 = .ok (.iconst 3, 1) := gz_d tdX8_at_t0_ok 1 rfl
theorem dX8_at_2 : decode cX8_at 2 = .ok (.imul, 1) := gz_d tdX8_at_t0_ok 2 rfl
theorem dX8_at_3 : decode cX8_at 3 = .ok (.aload_n 0, 1) := gz_d tdX8_at_t0_ok 3 rfl
theorem dX8_at_4 : decode cX8_at 4 = .ok (.iload_n 2, 1) := gz_d tdX8_at_t0_ok 4 rfl
theorem dX8_at_5 : decode cX8_at 5 = .ok (.invokevirtual 67, 3) := gz_d tdX8_at_t0_ok 5 rfl
theorem dX8_at_8 : decode cX8_at 8 = .ok (.iadd, 1) := gz_d tdX8_at_t0_ok 6 rfl
theorem dX8_at_9 : decode cX8_at 9 = .ok (.iconst 1, 1) := gz_d tdX8_at_t0_ok 7 rfl
theorem dX8_at_10 : decode cX8_at 10 = .ok (.isub, 1) := gz_d tdX8_at_t0_ok 8 rfl
theorem dX8_at_11 : decode cX8_at 11 = .ok (.iconst 4, 1) := gz_d tdX8_at_t0_ok 9 rfl
theorem dX8_at_12 : decode cX8_at 12 = .ok (.imul, 1) := gz_d tdX8_at_t0_ok 10 rfl
theorem dX8_at_13 : decode cX8_at 13 = .ok (.iload_n 3, 1) := gz_d tdX8_at_t0_ok 11 rfl
theorem dX8_at_14 : decode cX8_at 14 = .ok (.iadd, 1) := gz_d tdX8_at_t0_ok 12 rfl
theorem dX8_at_15 : decode cX8_at 15 = .ok (.bipush 9, 2) := gz_d tdX8_at_t0_ok 13 rfl
theorem dX8_at_17 : decode cX8_at 17 = .ok (.imul, 1) := gz_d tdX8_at_t0_ok 14 rfl
theorem dX8_at_18 : decode cX8_at 18 = .ok (.iload 4, 2) := gz_d tdX8_at_t0_ok 15 rfl
theorem dX8_at_20 : decode cX8_at 20 = .ok (.iadd, 1) := gz_d tdX8_at_t0_ok 16 rfl
theorem dX8_at_21 : decode cX8_at 21 = .ok (.iconst 1, 1) := gz_d tdX8_at_t0_ok 17 rfl
theorem dX8_at_22 : decode cX8_at 22 = .ok (.iadd, 1) := gz_d tdX8_at_t0_ok 18 rfl
theorem dX8_at_23 : decode cX8_at 23 = .ok (.bipush 9, 2) := gz_d tdX8_at_t0_ok 19 rfl
theorem dX8_at_25 : decode cX8_at 25 = .ok (.imul, 1) := gz_d tdX8_at_t0_ok 20 rfl
theorem dX8_at_26 : decode cX8_at 26 = .ok (.iload 5, 2) := gz_d tdX8_at_t0_ok 21 rfl
theorem dX8_at_28 : decode cX8_at 28 = .ok (.iadd, 1) := gz_d tdX8_at_t0_ok 22 rfl
theorem dX8_at_29 : decode cX8_at 29 = .ok (.iconst 1, 1) := gz_d tdX8_at_t0_ok 23 rfl
theorem dX8_at_30 : decode cX8_at 30 = .ok (.iadd, 1) := gz_d tdX8_at_t0_ok 24 rfl
theorem dX8_at_31 : decode cX8_at 31 = .ok (.ireturn, 1) := gz_d tdX8_at_t0_ok 25 rfl
def tdX8_weigh_t0 : List (Nat × Instr × Nat) := [(0, .iload_n 1, 1), (1, .invokestatic 117, 3), (4, .ifCond .eq 49, 3), (7, .aload_n 0, 1), (8, .iload_n 2, 1), (9, .iload_n 3, 1), (10, .invokevirtual 97, 3), (13, .ifCond .eq 40, 3), (16, .iload 4, 2), (18, .iconst (-1), 1), (19, .if_icmp .eq 12, 3), (22, .aload_n 0, 1), (23, .iload 4, 2), (25, .invokevirtual 105, 3), (28, .ifCond .eq 25, 3), (31, .aload_n 0, 1), (32, .iload 4, 2), (34, .iload 5, 2), (36, .invokevirtual 120, 3), (39, .ifCond .eq 14, 3), (42, .iload 6, 2), (44, .iconst 0, 1), (45, .bipush 20, 2), (47, .invokestatic 82, 3), (50, .ifCond .ne 6, 3), (53, .bipush (-2), 2), (55, .ireturn, 1), (56, .aload_n 0, 1), (57, .iload_n 1, 1), (58, .iload_n 2, 1), (59, .iload_n 3, 1), (60, .iload 4, 2), (62, .iload 5, 2), (64, .invokevirtual 123, 3), (67, .istore 7, 2), (69, .aload_n 0, 1), (70, .getfield 29, 3), (73, .iload 7, 2), (75, .iaload, 1), (76, .istore 8, 2), (78, .aload_n 0, 1), (79, .getfield 29, 3), (82, .iload 7, 2), (84, .iload 6, 2), (86, .iastore, 1), (87, .iload 8, 2), (89, .ireturn, 1)]
theorem tdX8_weigh_t0_ok : gz_dec cX8_weigh tdX8_weigh_t0 = true := by decide +kernel
theorem dX8_weigh_0 : decode cX8_weigh 0 = .ok (.iload_n 1, 1) := gz_d tdX8_weigh_t0_ok 0 rfl
theorem dX8_weigh_1 : decode cX8_weigh 1 = .ok (.invokestatic 117, 3) := gz_d tdX8_weigh_t0_ok 1 rfl
theorem dX8_weigh_4 : decode cX8_weigh 4 = .ok (.ifCond .eq 49, 3) := gz_d tdX8_weigh_t0_ok 2 rfl
theorem dX8_weigh_7 : decode cX8_weigh 7 = .ok (.aload_n 0, 1) := gz_d tdX8_weigh_t0_ok 3 rfl
theorem dX8_weigh_8 : decode cX8_weigh 8 = .ok (.iload_n 2, 1) := gz_d tdX8_weigh_t0_ok 4 rfl
theorem dX8_weigh_9 : decode cX8_weigh 9 = .ok (.iload_n 3, 1) := gz_d tdX8_weigh_t0_ok 5 rfl
theorem dX8_weigh_10 : decode cX8_weigh 10 = .ok (.invokevirtual 97, 3) := gz_d tdX8_weigh_t0_ok 6 rfl
theorem dX8_weigh_13 : decode cX8_weigh 13 = .ok (.ifCond .eq 40, 3) := gz_d tdX8_weigh_t0_ok 7 rfl
theorem dX8_weigh_16 : decode cX8_weigh 16 = .ok (.iload 4, 2) := gz_d tdX8_weigh_t0_ok 8 rfl
theorem dX8_weigh_18 : decode cX8_weigh 18 = .ok (.iconst (-1), 1) := gz_d tdX8_weigh_t0_ok 9 rfl
theorem dX8_weigh_19 : decode cX8_weigh 19 = .ok (.if_icmp .eq 12, 3) := gz_d tdX8_weigh_t0_ok 10 rfl
theorem dX8_weigh_22 : decode cX8_weigh 22 = .ok (.aload_n 0, 1) := gz_d tdX8_weigh_t0_ok 11 rfl
theorem dX8_weigh_23 : decode cX8_weigh 23 = .ok (.iload 4, 2) := gz_d tdX8_weigh_t0_ok 12 rfl
theorem dX8_weigh_25 : decode cX8_weigh 25 = .ok (.invokevirtual 105, 3) := gz_d tdX8_weigh_t0_ok 13 rfl
theorem dX8_weigh_28 : decode cX8_weigh 28 = .ok (.ifCond .eq 25, 3) := gz_d tdX8_weigh_t0_ok 14 rfl
theorem dX8_weigh_31 : decode cX8_weigh 31 = .ok (.aload_n 0, 1) := gz_d tdX8_weigh_t0_ok 15 rfl
theorem dX8_weigh_32 : decode cX8_weigh 32 = .ok (.iload 4, 2) := gz_d tdX8_weigh_t0_ok 16 rfl
theorem dX8_weigh_34 : decode cX8_weigh 34 = .ok (.iload 5, 2) := gz_d tdX8_weigh_t0_ok 17 rfl
theorem dX8_weigh_36 : decode cX8_weigh 36 = .ok (.invokevirtual 120, 3) := gz_d tdX8_weigh_t0_ok 18 rfl
theorem dX8_weigh_39 : decode cX8_weigh 39 = .ok (.ifCond .eq 14, 3) := gz_d tdX8_weigh_t0_ok 19 rfl
theorem dX8_weigh_42 : decode cX8_weigh 42 = .ok (.iload 6, 2) := gz_d tdX8_weigh_t0_ok 20 rfl
theorem dX8_weigh_44 : decode cX8_weigh 44 = .ok (.iconst 0, 1) := gz_d tdX8_weigh_t0_ok 21 rfl
theorem dX8_weigh_45 : decode cX8_weigh 45 = .ok (.bipush 20, 2) := gz_d tdX8_weigh_t0_ok 22 rfl
theorem dX8_weigh_47 : decode cX8_weigh 47 = .ok (.invokestatic 82, 3) := gz_d tdX8_weigh_t0_ok 23 rfl
theorem dX8_weigh_50 : decode cX8_weigh 50 = .ok (.ifCond .ne 6, 3) := gz_d tdX8_weigh_t0_ok 24 rfl
theorem dX8_weigh_53 : decode cX8_weigh 53 = .ok (.bipush (-2), 2) := gz_d tdX8_weigh_t0_ok 25 rfl
theorem dX8_weigh_55 : decode cX8_weigh 55 = .ok (.ireturn, 1) := gz_d tdX8_weigh_t0_ok 26 rfl
theorem dX8_weigh_56 : decode cX8_weigh 56 = .ok (.aload_n 0, 1) := gz_d tdX8_weigh_t0_ok 27 rfl
theorem dX8_weigh_57 : decode cX8_weigh 57 = .ok (.iload_n 1, 1) := gz_d tdX8_weigh_t0_ok 28 rfl
theorem dX8_weigh_58 : decode cX8_weigh 58 = .ok (.iload_n 2, 1) := gz_d tdX8_weigh_t0_ok 29 rfl
theorem dX8_weigh_59 : decode cX8_weigh 59 = .ok (.iload_n 3, 1) := gz_d tdX8_weigh_t0_ok 30 rfl
theorem dX8_weigh_60 : decode cX8_weigh 60 = .ok (.iload 4, 2) := gz_d tdX8_weigh_t0_ok 31 rfl
theorem dX8_weigh_62 : decode cX8_weigh 62 = .ok (.iload 5, 2) := gz_d tdX8_weigh_t0_ok 32 rfl
theorem dX8_weigh_64 : decode cX8_weigh 64 = .ok (.invokevirtual 123, 3) := gz_d tdX8_weigh_t0_ok 33 rfl
theorem dX8_weigh_67 : decode cX8_weigh 67 = .ok (.istore 7, 2) := gz_d tdX8_weigh_t0_ok 34 rfl
theorem dX8_weigh_69 : decode cX8_weigh 69 = .ok (.aload_n 0, 1) := gz_d tdX8_weigh_t0_ok 35 rfl
theorem dX8_weigh_70 : decode cX8_weigh 70 = .ok (.getfield 29, 3) := gz_d tdX8_weigh_t0_ok 36 rfl
theorem dX8_weigh_73 : decode cX8_weigh 73 = .ok (.iload 7, 2) := gz_d tdX8_weigh_t0_ok 37 rfl
theorem dX8_weigh_75 : decode cX8_weigh 75 = .ok (.iaload, 1) := gz_d tdX8_weigh_t0_ok 38 rfl
theorem dX8_weigh_76 : decode cX8_weigh 76 = .ok (.istore 8, 2) := gz_d tdX8_weigh_t0_ok 39 rfl
theorem dX8_weigh_78 : decode cX8_weigh 78 = .ok (.aload_n 0, 1) := gz_d tdX8_weigh_t0_ok 40 rfl
theorem dX8_weigh_79 : decode cX8_weigh 79 = .ok (.getfield 29, 3) := gz_d tdX8_weigh_t0_ok 41 rfl
theorem dX8_weigh_82 : decode cX8_weigh 82 = .ok (.iload 7, 2) := gz_d tdX8_weigh_t0_ok 42 rfl
theorem dX8_weigh_84 : decode cX8_weigh 84 = .ok (.iload 6, 2) := gz_d tdX8_weigh_t0_ok 43 rfl
theorem dX8_weigh_86 : decode cX8_weigh 86 = .ok (.iastore, 1) := gz_d tdX8_weigh_t0_ok 44 rfl
theorem dX8_weigh_87 : decode cX8_weigh 87 = .ok (.iload 8, 2) := gz_d tdX8_weigh_t0_ok 45 rfl
theorem dX8_weigh_89 : decode cX8_weigh 89 = .ok (.ireturn, 1) := gz_d tdX8_weigh_t0_ok 46 rfl
def tdX8_total_t0 : List (Nat × Instr × Nat) := [(0, .iconst 0, 1), (1, .istore 5, 2), (3, .iload 4, 2), (5, .iconst (-1), 1), (6, .if_icmp .ne 7, 3), (9, .iconst 0, 1), (10, .goto 4, 3), (13, .iconst (-1), 1), (14, .istore 6, 2), (16, .iload 6, 2), (18, .aload_n 0, 1), (19, .invokevirtual 89, 3), (22, .if_icmp .ge 45, 3), (25, .iload 5, 2), (27, .aload_n 0, 1), (28, .iload 4, 2), (30, .iload 6, 2), (32, .invokevirtual 120, 3), (35, .ifCond .eq 22, 3), (38, .aload_n 0, 1), (39, .getfield 29, 3), (42, .aload_n 0, 1), (43, .iload_n 1, 1), (44, .iload_n 2, 1), (45, .iload_n 3, 1), (46, .iload 4, 2), (48, .iload 6, 2), (50, .invokevirtual 123, 3), (53, .iaload, 1), (54, .goto 4, 3), (57, .iconst 0, 1), (58, .iadd, 1), (59, .istore 5, 2), (61, .iinc 6 1, 3), (64, .goto (-48), 3), (67, .iload 5, 2), (69, .ireturn, 1)]
theorem tdX8_total_t0_ok : gz_dec cX8_total tdX8_total_t0 = true := by decide +kernel
theorem dX8_total_0 : decode cX8_total 0 = .ok (.iconst 0, 1) := gz_d tdX8_total_t0_ok 0 rfl
theorem dX8_total_1 : decode cX8_total 1 = .ok (.istore 5, 2) := gz_d tdX8_total_t0_ok 1 rfl
theorem dX8_total_3 : decode cX8_total 3 = .ok (.iload 4, 2) := gz_d tdX8_total_t0_ok 2 rfl
theorem dX8_total_5 : decode cX8_total 5 = .ok (.iconst (-1), 1) := gz_d tdX8_total_t0_ok 3 rfl
theorem dX8_total_6 : decode cX8_total 6 = .ok (.if_icmp .ne 7, 3) := gz_d tdX8_total_t0_ok 4 rfl
theorem dX8_total_9 : decode cX8_total 9 = .ok (.iconst 0, 1) := gz_d tdX8_total_t0_ok 5 rfl
theorem dX8_total_10 : decode cX8_total 10 = .ok (.goto 4, 3) := gz_d tdX8_total_t0_ok 6 rfl
theorem dX8_total_13 : decode cX8_total 13 = .ok (.iconst (-1), 1) := gz_d tdX8_total_t0_ok 7 rfl
theorem dX8_total_14 : decode cX8_total 14 = .ok (.istore 6, 2) := gz_d tdX8_total_t0_ok 8 rfl
theorem dX8_total_16 : decode cX8_total 16 = .ok (.iload 6, 2) := gz_d tdX8_total_t0_ok 9 rfl
theorem dX8_total_18 : decode cX8_total 18 = .ok (.aload_n 0, 1) := gz_d tdX8_total_t0_ok 10 rfl
theorem dX8_total_19 : decode cX8_total 19 = .ok (.invokevirtual 89, 3) := gz_d tdX8_total_t0_ok 11 rfl
theorem dX8_total_22 : decode cX8_total 22 = .ok (.if_icmp .ge 45, 3) := gz_d tdX8_total_t0_ok 12 rfl
theorem dX8_total_25 : decode cX8_total 25 = .ok (.iload 5, 2) := gz_d tdX8_total_t0_ok 13 rfl
theorem dX8_total_27 : decode cX8_total 27 = .ok (.aload_n 0, 1) := gz_d tdX8_total_t0_ok 14 rfl
theorem dX8_total_28 : decode cX8_total 28 = .ok (.iload 4, 2) := gz_d tdX8_total_t0_ok 15 rfl
theorem dX8_total_30 : decode cX8_total 30 = .ok (.iload 6, 2) := gz_d tdX8_total_t0_ok 16 rfl
theorem dX8_total_32 : decode cX8_total 32 = .ok (.invokevirtual 120, 3) := gz_d tdX8_total_t0_ok 17 rfl
theorem dX8_total_35 : decode cX8_total 35 = .ok (.ifCond .eq 22, 3) := gz_d tdX8_total_t0_ok 18 rfl
theorem dX8_total_38 : decode cX8_total 38 = .ok (.aload_n 0, 1) := gz_d tdX8_total_t0_ok 19 rfl
theorem dX8_total_39 : decode cX8_total 39 = .ok (.getfield 29, 3) := gz_d tdX8_total_t0_ok 20 rfl
theorem dX8_total_42 : decode cX8_total 42 = .ok (.aload_n 0, 1) := gz_d tdX8_total_t0_ok 21 rfl
theorem dX8_total_43 : decode cX8_total 43 = .ok (.iload_n 1, 1) := gz_d tdX8_total_t0_ok 22 rfl
theorem dX8_total_44 : decode cX8_total 44 = .ok (.iload_n 2, 1) := gz_d tdX8_total_t0_ok 23 rfl
theorem dX8_total_45 : decode cX8_total 45 = .ok (.iload_n 3, 1) := gz_d tdX8_total_t0_ok 24 rfl
theorem dX8_total_46 : decode cX8_total 46 = .ok (.iload 4, 2) := gz_d tdX8_total_t0_ok 25 rfl
theorem dX8_total_48 : decode cX8_total 48 = .ok (.iload 6, 2) := gz_d tdX8_total_t0_ok 26 rfl
theorem dX8_total_50 : decode cX8_total 50 = .ok (.invokevirtual 123, 3) := gz_d tdX8_total_t0_ok 27 rfl
theorem dX8_total_53 : decode cX8_total 53 = .ok (.iaload, 1) := gz_d tdX8_total_t0_ok 28 rfl
theorem dX8_total_54 : decode cX8_total 54 = .ok (.goto 4, 3) := gz_d tdX8_total_t0_ok 29 rfl
theorem dX8_total_57 : decode cX8_total 57 = .ok (.iconst 0, 1) := gz_d tdX8_total_t0_ok 30 rfl
theorem dX8_total_58 : decode cX8_total 58 = .ok (.iadd, 1) := gz_d tdX8_total_t0_ok 31 rfl
theorem dX8_total_59 : decode cX8_total 59 = .ok (.istore 5, 2) := gz_d tdX8_total_t0_ok 32 rfl
theorem dX8_total_61 : decode cX8_total 61 = .ok (.iinc 6 1, 3) := gz_d tdX8_total_t0_ok 33 rfl
theorem dX8_total_64 : decode cX8_total 64 = .ok (.goto (-48), 3) := gz_d tdX8_total_t0_ok 34 rfl
theorem dX8_total_67 : decode cX8_total 67 = .ok (.iload 5, 2) := gz_d tdX8_total_t0_ok 35 rfl
theorem dX8_total_69 : decode cX8_total 69 = .ok (.ireturn, 1) := gz_d tdX8_total_t0_ok 36 rfl
def tdX8_part_t0 : List (Nat × Instr × Nat) := [(0, .aload_n 0, 1), (1, .iload_n 1, 1), (2, .iload_n 2, 1), (3, .iload_n 3, 1), (4, .iload 4, 2), (6, .invokevirtual 127, 3), (9, .istore 6, 2), (11, .iload 6, 2), (13, .ifCond .ne 25, 3), (16, .iload 5, 2), (18, .iload 4, 2), (20, .iconst (-1), 1), (21, .if_icmp .ne 7, 3), (24, .iconst 0, 1), (25, .goto 4, 3), (28, .iconst (-1), 1), (29, .if_icmp .ne 7, 3), (32, .dconst 1, 1), (33, .goto 4, 3), (36, .dconst 0, 1), (37, .dreturn, 1), (38, .aload_n 0, 1), (39, .getfield 29, 3), (42, .aload_n 0, 1), (43, .iload_n 1, 1), (44, .iload_n 2, 1), (45, .iload_n 3, 1), (46, .iload 4, 2), (48, .iload 5, 2), (50, .invokevirtual 123, 3), (53, .iaload, 1), (54, .i2d, 1), (55, .iload 6, 2), (57, .i2d, 1), (58, .ddiv, 1), (59, .dreturn, 1)]
theorem tdX8_part_t0_ok : gz_dec cX8_part tdX8_part_t0 = true := by decide +kernel
theorem dX8_part_0 : decode cX8_part 0 = .ok (.aload_n 0, 1) := gz_d tdX8_part_t0_ok 0 rfl
theorem dX8_part_1 : decode cX8_part 1 = .ok (.iload_n 1, 1) := gz_d tdX8_part_t0_ok 1 rfl
theorem dX8_part_2 : decode cX8_part 2 = .ok (.iload_n 2, 1) := gz_d tdX8_part_t0_ok 2 rfl
theorem dX8_part_3 : decode cX8_part 3 = .ok (.iload_n 3, 1) := gz_d tdX8_part_t0_ok 3 rfl
theorem dX8_part_4 : decode cX8_part 4 = .ok (.iload 4, 2) := gz_d tdX8_part_t0_ok 4 rfl
theorem dX8_part_6 : decode cX8_part 6 = .ok (.invokevirtual 127, 3) := gz_d tdX8_part_t0_ok 5 rfl
theorem dX8_part_9 : decode cX8_part 9 = .ok (.istore 6, 2) := gz_d tdX8_part_t0_ok 6 rfl
theorem dX8_part_11 : decode cX8_part 11 = .ok (.iload 6, 2) := gz_d tdX8_part_t0_ok 7 rfl
theorem dX8_part_13 : decode cX8_part 13 = .ok (.ifCond .ne 25, 3) := gz_d tdX8_part_t0_ok 8 rfl
theorem dX8_part_16 : decode cX8_part 16 = .ok (.iload 5, 2) := gz_d tdX8_part_t0_ok 9 rfl
theorem dX8_part_18 : decode cX8_part 18 = .ok (.iload 4, 2) := gz_d tdX8_part_t0_ok 10 rfl
theorem dX8_part_20 : decode cX8_part 20 = .ok (.iconst (-1), 1) := gz_d tdX8_part_t0_ok 11 rfl
theorem dX8_part_21 : decode cX8_part 21 = .ok (.if_icmp .ne 7, 3) := gz_d tdX8_part_t0_ok 12 rfl
theorem dX8_part_24 : decode cX8_part 24 = .ok (.iconst 0, 1) := gz_d tdX8_part_t0_ok 13 rfl
theorem dX8_part_25 : decode cX8_part 25 = .ok (.goto 4, 3) := gz_d tdX8_part_t0_ok 14 rfl
theorem dX8_part_28 : decode cX8_part 28 = .ok (.iconst (-1), 1) := gz_d tdX8_part_t0_ok 15 rfl
theorem dX8_part_29 : decode cX8_part 29 = .ok (.if_icmp .ne 7, 3) := gz_d tdX8_part_t0_ok 16 rfl
theorem dX8_part_32 : decode cX8_part 32 = .ok (.dconst 1, 1) := gz_d tdX8_part_t0_ok 17 rfl
theorem dX8_part_33 : decode cX8_part 33 = .ok (.goto 4, 3) := gz_d tdX8_part_t0_ok 18 rfl
theorem dX8_part_36 : decode cX8_part 36 = .ok (.dconst 0, 1) := gz_d tdX8_part_t0_ok 19 rfl
theorem dX8_part_37 : decode cX8_part 37 = .ok (.dreturn, 1) := gz_d tdX8_part_t0_ok 20 rfl
theorem dX8_part_38 : decode cX8_part 38 = .ok (.aload_n 0, 1) := gz_d tdX8_part_t0_ok 21 rfl
theorem dX8_part_39 : decode cX8_part 39 = .ok (.getfield 29, 3) := gz_d tdX8_part_t0_ok 22 rfl
theorem dX8_part_42 : decode cX8_part 42 = .ok (.aload_n 0, 1) := gz_d tdX8_part_t0_ok 23 rfl
theorem dX8_part_43 : decode cX8_part 43 = .ok (.iload_n 1, 1) := gz_d tdX8_part_t0_ok 24 rfl
theorem dX8_part_44 : decode cX8_part 44 = .ok (.iload_n 2, 1) := gz_d tdX8_part_t0_ok 25 rfl
theorem dX8_part_45 : decode cX8_part 45 = .ok (.iload_n 3, 1) := gz_d tdX8_part_t0_ok 26 rfl
theorem dX8_part_46 : decode cX8_part 46 = .ok (.iload 4, 2) := gz_d tdX8_part_t0_ok 27 rfl
theorem dX8_part_48 : decode cX8_part 48 = .ok (.iload 5, 2) := gz_d tdX8_part_t0_ok 28 rfl
theorem dX8_part_50 : decode cX8_part 50 = .ok (.invokevirtual 123, 3) := gz_d tdX8_part_t0_ok 29 rfl
theorem dX8_part_53 : decode cX8_part 53 = .ok (.iaload, 1) := gz_d tdX8_part_t0_ok 30 rfl
theorem dX8_part_54 : decode cX8_part 54 = .ok (.i2d, 1) := gz_d tdX8_part_t0_ok 31 rfl
theorem dX8_part_55 : decode cX8_part 55 = .ok (.iload 6, 2) := gz_d tdX8_part_t0_ok 32 rfl
theorem dX8_part_57 : decode cX8_part 57 = .ok (.i2d, 1) := gz_d tdX8_part_t0_ok 33 rfl
theorem dX8_part_58 : decode cX8_part 58 = .ok (.ddiv, 1) := gz_d tdX8_part_t0_ok 34 rfl
theorem dX8_part_59 : decode cX8_part 59 = .ok (.dreturn, 1) := gz_d tdX8_part_t0_ok 35 rfl
def tdX8_wins_t0 : List (Nat × Instr × Nat) := [(0, .aload_n 0, 1), (1, .iload_n 3, 1), (2, .iload 4, 2), (4, .iload 5, 2), (6, .invokevirtual 108, 3), (9, .iload_n 1, 1), (10, .iload_n 2, 1), (11, .if_icmp .eq 7, 3), (14, .iconst 1, 1), (15, .goto 4, 3), (18, .iconst 0, 1), (19, .if_icmp .ne 7, 3), (22, .iconst 1, 1), (23, .goto 4, 3), (26, .iconst 0, 1), (27, .ireturn, 1)]
theorem tdX8_wins_t0_ok : gz_dec cX8_wins tdX8_wins_t0 = true := by decide +kernel
theorem dX8_wins_0 : decode cX8_wins 0 = .ok (.aload_n 0, 1) := gz_d tdX8_wins_t0_ok 0 rfl
theorem dX8_wins_1 : decode cX8_wins 1 = .ok (.iload_n 3, 1) := gz_d tdX8_wins_t0_ok 1 rfl
theorem dX8_wins_2 : decode cX8_wins 2 = .ok (.iload 4, 2) := gz_d tdX8_wins_t0_ok 2 rfl
theorem dX8_wins_4 : decode cX8_wins 4 = .ok (.iload 5, 2) := gz_d tdX8_wins_t0_ok 3 rfl
theorem dX8_wins_6 : decode cX8_wins 6 = .ok (.invokevirtual 108, 3) := gz_d tdX8_wins_t0_ok 4 rfl
theorem dX8_wins_9 : decode cX8_wins 9 = .ok (.iload_n 1, 1) := gz_d tdX8_wins_t0_ok 5 rfl
theorem dX8_wins_10 : decode cX8_wins 10 = .ok (.iload_n 2, 1) := gz_d tdX8_wins_t0_ok 6 rfl
theorem dX8_wins_11 : decode cX8_wins 11 = .ok (.if_icmp .eq 7, 3) := gz_d tdX8_wins_t0_ok 7 rfl
theorem dX8_wins_14 : decode cX8_wins 14 = .ok (.iconst 1, 1) := gz_d tdX8_wins_t0_ok 8 rfl
theorem dX8_wins_15 : decode cX8_wins 15 = .ok (.goto 4, 3) := gz_d tdX8_wins_t0_ok 9 rfl
theorem dX8_wins_18 : decode cX8_wins 18 = .ok (.iconst 0, 1) := gz_d tdX8_wins_t0_ok 10 rfl
theorem dX8_wins_19 : decode cX8_wins 19 = .ok (.if_icmp .ne 7, 3) := gz_d tdX8_wins_t0_ok 11 rfl
theorem dX8_wins_22 : decode cX8_wins 22 = .ok (.iconst 1, 1) := gz_d tdX8_wins_t0_ok 12 rfl
theorem dX8_wins_23 : decode cX8_wins 23 = .ok (.goto 4, 3) := gz_d tdX8_wins_t0_ok 13 rfl
theorem dX8_wins_26 : decode cX8_wins 26 = .ok (.iconst 0, 1) := gz_d tdX8_wins_t0_ok 14 rfl
theorem dX8_wins_27 : decode cX8_wins 27 = .ok (.ireturn, 1) := gz_d tdX8_wins_t0_ok 15 rfl
def tdX8_worthOf_t0 : List (Nat × Instr × Nat) := [(0, .aload_n 0, 1), (1, .invokevirtual 89, 3), (4, .iconst 1, 1), (5, .isub, 1), (6, .istore 5, 2), (8, .iload 5, 2), (10, .iconst (-1), 1), (11, .if_icmp .lt 186, 3), (14, .iconst 0, 1), (15, .istore 6, 2), (17, .iload 6, 2), (19, .iconst 2, 1), (20, .if_icmp .ge 171, 3), (23, .iload 6, 2), (25, .ifCond .ne 7, 3), (28, .iload_n 1, 1), (29, .goto 4, 3), (32, .iload_n 2, 1), (33, .istore 7, 2), (35, .iload 6, 2), (37, .ifCond .ne 7, 3), (40, .iload_n 3, 1), (41, .goto 5, 3), (44, .iload 4, 2), (46, .istore 8, 2), (48, .dconst 0, 1), (49, .dstore 9, 2), (51, .iconst (-1), 1), (52, .istore 11, 2), (54, .iload 11, 2), (56, .aload_n 0, 1), (57, .invokevirtual 89, 3), (60, .if_icmp .ge 99, 3), (63, .aload_n 0, 1), (64, .iload 5, 2), (66, .iload 11, 2), (68, .invokevirtual 120, 3), (71, .ifCond .eq 82, 3), (74, .aload_n 0, 1), (75, .iload 7, 2), (77, .iload 6, 2), (79, .iload 8, 2), (81, .iload 5, 2), (83, .iload 11, 2), (85, .invokevirtual 131, 3), (88, .dstore 12, 2), (90, .dload 12, 2), (92, .dconst 0, 1), (93, .dcmp .l, 1), (94, .ifCond .le 59, 3), (97, .iload 11, 2), (99, .iconst (-1), 1), (100, .if_icmp .ne 26, 3), (103, .aload_n 0, 1), (104, .iconst 0, 1), (105, .iload 6, 2), (107, .iload_n 3, 1), (108, .iload 4, 2), (110, .iload 5, 2), (112, .invokevirtual 135, 3)]
theorem tdX8_worthOf_t0_ok : gz_dec cX8_worthOf tdX8_worthOf_t0 = true := by decide +kernel
theorem dX8_worthOf_0 : decode cX8_worthOf 0 = .ok (.aload_n 0, 1) := gz_d tdX8_worthOf_t0_ok 0 rfl
theorem dX8_worthOf_1 : decode cX8_worthOf 1 = .ok (.invokevirtual 89, 3) := gz_d tdX8_worthOf_t0_ok 1 rfl
theorem dX8_worthOf_4 : decode cX8_worthOf 4 = .ok (.iconst 1, 1) := gz_d tdX8_worthOf_t0_ok 2 rfl
theorem dX8_worthOf_5 : decode cX8_worthOf 5 = .ok (.isub, 1) := gz_d tdX8_worthOf_t0_ok 3 rfl
theorem dX8_worthOf_6 : decode cX8_worthOf 6 = .ok (.istore 5, 2) := gz_d tdX8_worthOf_t0_ok 4 rfl
theorem dX8_worthOf_8 : decode cX8_worthOf 8 = .ok (.iload 5, 2) := gz_d tdX8_worthOf_t0_ok 5 rfl
theorem dX8_worthOf_10 : decode cX8_worthOf 10 = .ok (.iconst (-1), 1) := gz_d tdX8_worthOf_t0_ok 6 rfl
theorem dX8_worthOf_11 : decode cX8_worthOf 11 = .ok (.if_icmp .lt 186, 3) := gz_d tdX8_worthOf_t0_ok 7 rfl
theorem dX8_worthOf_14 : decode cX8_worthOf 14 = .ok (.iconst 0, 1) := gz_d tdX8_worthOf_t0_ok 8 rfl
theorem dX8_worthOf_15 : decode cX8_worthOf 15 = .ok (.istore 6, 2) := gz_d tdX8_worthOf_t0_ok 9 rfl
theorem dX8_worthOf_17 : decode cX8_worthOf 17 = .ok (.iload 6, 2) := gz_d tdX8_worthOf_t0_ok 10 rfl
theorem dX8_worthOf_19 : decode cX8_worthOf 19 = .ok (.iconst 2, 1) := gz_d tdX8_worthOf_t0_ok 11 rfl
theorem dX8_worthOf_20 : decode cX8_worthOf 20 = .ok (.if_icmp .ge 171, 3) := gz_d tdX8_worthOf_t0_ok 12 rfl
theorem dX8_worthOf_23 : decode cX8_worthOf 23 = .ok (.iload 6, 2) := gz_d tdX8_worthOf_t0_ok 13 rfl
theorem dX8_worthOf_25 : decode cX8_worthOf 25 = .ok (.ifCond .ne 7, 3) := gz_d tdX8_worthOf_t0_ok 14 rfl
theorem dX8_worthOf_28 : decode cX8_worthOf 28 = .ok (.iload_n 1, 1) := gz_d tdX8_worthOf_t0_ok 15 rfl
theorem dX8_worthOf_29 : decode cX8_worthOf 29 = .ok (.goto 4, 3) := gz_d tdX8_worthOf_t0_ok 16 rfl
theorem dX8_worthOf_32 : decode cX8_worthOf 32 = .ok (.iload_n 2, 1) := gz_d tdX8_worthOf_t0_ok 17 rfl
theorem dX8_worthOf_33 : decode cX8_worthOf 33 = .ok (.istore 7, 2) := gz_d tdX8_worthOf_t0_ok 18 rfl
theorem dX8_worthOf_35 : decode cX8_worthOf 35 = .ok (.iload 6, 2) := gz_d tdX8_worthOf_t0_ok 19 rfl
theorem dX8_worthOf_37 : decode cX8_worthOf 37 = .ok (.ifCond .ne 7, 3) := gz_d tdX8_worthOf_t0_ok 20 rfl
theorem dX8_worthOf_40 : decode cX8_worthOf 40 = .ok (.iload_n 3, 1) := gz_d tdX8_worthOf_t0_ok 21 rfl
theorem dX8_worthOf_41 : decode cX8_worthOf 41 = .ok (.goto 5, 3) := gz_d tdX8_worthOf_t0_ok 22 rfl
theorem dX8_worthOf_44 : decode cX8_worthOf 44 = .ok (.iload 4, 2) := gz_d tdX8_worthOf_t0_ok 23 rfl
theorem dX8_worthOf_46 : decode cX8_worthOf 46 = .ok (.istore 8, 2) := gz_d tdX8_worthOf_t0_ok 24 rfl
theorem dX8_worthOf_48 : decode cX8_worthOf 48 = .ok (.dconst 0, 1) := gz_d tdX8_worthOf_t0_ok 25 rfl
theorem dX8_worthOf_49 : decode cX8_worthOf 49 = .ok (.dstore 9, 2) := gz_d tdX8_worthOf_t0_ok 26 rfl
theorem dX8_worthOf_51 : decode cX8_worthOf 51 = .ok (.iconst (-1), 1) := gz_d tdX8_worthOf_t0_ok 27 rfl
theorem dX8_worthOf_52 : decode cX8_worthOf 52 = .ok (.istore 11, 2) := gz_d tdX8_worthOf_t0_ok 28 rfl
theorem dX8_worthOf_54 : decode cX8_worthOf 54 = .ok (.iload 11, 2) := gz_d tdX8_worthOf_t0_ok 29 rfl
theorem dX8_worthOf_56 : decode cX8_worthOf 56 = .ok (.aload_n 0, 1) := gz_d tdX8_worthOf_t0_ok 30 rfl
theorem dX8_worthOf_57 : decode cX8_worthOf 57 = .ok (.invokevirtual 89, 3) := gz_d tdX8_worthOf_t0_ok 31 rfl
theorem dX8_worthOf_60 : decode cX8_worthOf 60 = .ok (.if_icmp .ge 99, 3) := gz_d tdX8_worthOf_t0_ok 32 rfl
theorem dX8_worthOf_63 : decode cX8_worthOf 63 = .ok (.aload_n 0, 1) := gz_d tdX8_worthOf_t0_ok 33 rfl
theorem dX8_worthOf_64 : decode cX8_worthOf 64 = .ok (.iload 5, 2) := gz_d tdX8_worthOf_t0_ok 34 rfl
theorem dX8_worthOf_66 : decode cX8_worthOf 66 = .ok (.iload 11, 2) := gz_d tdX8_worthOf_t0_ok 35 rfl
theorem dX8_worthOf_68 : decode cX8_worthOf 68 = .ok (.invokevirtual 120, 3) := gz_d tdX8_worthOf_t0_ok 36 rfl
theorem dX8_worthOf_71 : decode cX8_worthOf 71 = .ok (.ifCond .eq 82, 3) := gz_d tdX8_worthOf_t0_ok 37 rfl
theorem dX8_worthOf_74 : decode cX8_worthOf 74 = .ok (.aload_n 0, 1) := gz_d tdX8_worthOf_t0_ok 38 rfl
theorem dX8_worthOf_75 : decode cX8_worthOf 75 = .ok (.iload 7, 2) := gz_d tdX8_worthOf_t0_ok 39 rfl
theorem dX8_worthOf_77 : decode cX8_worthOf 77 = .ok (.iload 6, 2) := gz_d tdX8_worthOf_t0_ok 40 rfl
theorem dX8_worthOf_79 : decode cX8_worthOf 79 = .ok (.iload 8, 2) := gz_d tdX8_worthOf_t0_ok 41 rfl
theorem dX8_worthOf_81 : decode cX8_worthOf 81 = .ok (.iload 5, 2) := gz_d tdX8_worthOf_t0_ok 42 rfl
theorem dX8_worthOf_83 : decode cX8_worthOf 83 = .ok (.iload 11, 2) := gz_d tdX8_worthOf_t0_ok 43 rfl
theorem dX8_worthOf_85 : decode cX8_worthOf 85 = .ok (.invokevirtual 131, 3) := gz_d tdX8_worthOf_t0_ok 44 rfl
theorem dX8_worthOf_88 : decode cX8_worthOf 88 = .ok (.dstore 12, 2) := gz_d tdX8_worthOf_t0_ok 45 rfl
theorem dX8_worthOf_90 : decode cX8_worthOf 90 = .ok (.dload 12, 2) := gz_d tdX8_worthOf_t0_ok 46 rfl
theorem dX8_worthOf_92 : decode cX8_worthOf 92 = .ok (.dconst 0, 1) := gz_d tdX8_worthOf_t0_ok 47 rfl
theorem dX8_worthOf_93 : decode cX8_worthOf 93 = .ok (.dcmp .l, 1) := gz_d tdX8_worthOf_t0_ok 48 rfl
theorem dX8_worthOf_94 : decode cX8_worthOf 94 = .ok (.ifCond .le 59, 3) := gz_d tdX8_worthOf_t0_ok 49 rfl
theorem dX8_worthOf_97 : decode cX8_worthOf 97 = .ok (.iload 11, 2) := gz_d tdX8_worthOf_t0_ok 50 rfl
theorem dX8_worthOf_99 : decode cX8_worthOf 99 = .ok (.iconst (-1), 1) := gz_d tdX8_worthOf_t0_ok 51 rfl
theorem dX8_worthOf_100 : decode cX8_worthOf 100 = .ok (.if_icmp .ne 26, 3) := gz_d tdX8_worthOf_t0_ok 52 rfl
theorem dX8_worthOf_103 : decode cX8_worthOf 103 = .ok (.aload_n 0, 1) := gz_d tdX8_worthOf_t0_ok 53 rfl
theorem dX8_worthOf_104 : decode cX8_worthOf 104 = .ok (.iconst 0, 1) := gz_d tdX8_worthOf_t0_ok 54 rfl
theorem dX8_worthOf_105 : decode cX8_worthOf 105 = .ok (.iload 6, 2) := gz_d tdX8_worthOf_t0_ok 55 rfl
theorem dX8_worthOf_107 : decode cX8_worthOf 107 = .ok (.iload_n 3, 1) := gz_d tdX8_worthOf_t0_ok 56 rfl
theorem dX8_worthOf_108 : decode cX8_worthOf 108 = .ok (.iload 4, 2) := gz_d tdX8_worthOf_t0_ok 57 rfl
theorem dX8_worthOf_110 : decode cX8_worthOf 110 = .ok (.iload 5, 2) := gz_d tdX8_worthOf_t0_ok 58 rfl
theorem dX8_worthOf_112 : decode cX8_worthOf 112 = .ok (.invokevirtual 135, 3) := gz_d tdX8_worthOf_t0_ok 59 rfl
def tdX8_worthOf_t1 : List (Nat × Instr × Nat) := [(115, .ifCond .eq 7, 3), (118, .dconst 1, 1), (119, .goto 22, 3), (122, .dconst 0, 1), (123, .goto 18, 3), (126, .aload_n 0, 1), (127, .getfield 38, 3), (130, .bipush 9, 2), (132, .iconst 1, 1), (133, .iload 6, 2), (135, .isub, 1), (136, .imul, 1), (137, .iload 11, 2), (139, .iadd, 1), (140, .daload, 1), (141, .dstore 14, 2), (143, .dload 9, 2), (145, .dload 12, 2), (147, .dload 14, 2), (149, .dmul, 1), (150, .dadd, 1), (151, .dstore 9, 2), (153, .iinc 11 1, 3), (156, .goto (-102), 3), (159, .aload_n 0, 1), (160, .getfield 38, 3), (163, .bipush 9, 2), (165, .iload 6, 2), (167, .imul, 1), (168, .iload 5, 2), (170, .iconst (-1), 1), (171, .if_icmp .ne 8, 3), (174, .bipush 8, 2), (176, .goto 5, 3), (179, .iload 5, 2), (181, .iadd, 1), (182, .dload 9, 2), (184, .dastore, 1), (185, .iinc 6 1, 3), (188, .goto (-171), 3), (191, .iinc 5 (-1), 3), (194, .goto (-186), 3), (197, .aload_n 0, 1), (198, .getfield 38, 3), (201, .bipush 8, 2), (203, .daload, 1), (204, .dreturn, 1)]
theorem tdX8_worthOf_t1_ok : gz_dec cX8_worthOf tdX8_worthOf_t1 = true := by decide +kernel
theorem dX8_worthOf_115 : decode cX8_worthOf 115 = .ok (.ifCond .eq 7, 3) := gz_d tdX8_worthOf_t1_ok 0 rfl
theorem dX8_worthOf_118 : decode cX8_worthOf 118 = .ok (.dconst 1, 1) := gz_d tdX8_worthOf_t1_ok 1 rfl
theorem dX8_worthOf_119 : decode cX8_worthOf 119 = .ok (.goto 22, 3) := gz_d tdX8_worthOf_t1_ok 2 rfl
theorem dX8_worthOf_122 : decode cX8_worthOf 122 = .ok (.dconst 0, 1) := gz_d tdX8_worthOf_t1_ok 3 rfl
theorem dX8_worthOf_123 : decode cX8_worthOf 123 = .ok (.goto 18, 3) := gz_d tdX8_worthOf_t1_ok 4 rfl
theorem dX8_worthOf_126 : decode cX8_worthOf 126 = .ok (.aload_n 0, 1) := gz_d tdX8_worthOf_t1_ok 5 rfl
theorem dX8_worthOf_127 : decode cX8_worthOf 127 = .ok (.getfield 38, 3) := gz_d tdX8_worthOf_t1_ok 6 rfl
theorem dX8_worthOf_130 : decode cX8_worthOf 130 = .ok (.bipush 9, 2) := gz_d tdX8_worthOf_t1_ok 7 rfl
theorem dX8_worthOf_132 : decode cX8_worthOf 132 = .ok (.iconst 1, 1) := gz_d tdX8_worthOf_t1_ok 8 rfl
theorem dX8_worthOf_133 : decode cX8_worthOf 133 = .ok (.iload 6, 2) := gz_d tdX8_worthOf_t1_ok 9 rfl
theorem dX8_worthOf_135 : decode cX8_worthOf 135 = .ok (.isub, 1) := gz_d tdX8_worthOf_t1_ok 10 rfl
theorem dX8_worthOf_136 : decode cX8_worthOf 136 = .ok (.imul, 1) := gz_d tdX8_worthOf_t1_ok 11 rfl
theorem dX8_worthOf_137 : decode cX8_worthOf 137 = .ok (.iload 11, 2) := gz_d tdX8_worthOf_t1_ok 12 rfl
theorem dX8_worthOf_139 : decode cX8_worthOf 139 = .ok (.iadd, 1) := gz_d tdX8_worthOf_t1_ok 13 rfl
theorem dX8_worthOf_140 : decode cX8_worthOf 140 = .ok (.daload, 1) := gz_d tdX8_worthOf_t1_ok 14 rfl
theorem dX8_worthOf_141 : decode cX8_worthOf 141 = .ok (.dstore 14, 2) := gz_d tdX8_worthOf_t1_ok 15 rfl
theorem dX8_worthOf_143 : decode cX8_worthOf 143 = .ok (.dload 9, 2) := gz_d tdX8_worthOf_t1_ok 16 rfl
theorem dX8_worthOf_145 : decode cX8_worthOf 145 = .ok (.dload 12, 2) := gz_d tdX8_worthOf_t1_ok 17 rfl
theorem dX8_worthOf_147 : decode cX8_worthOf 147 = .ok (.dload 14, 2) := gz_d tdX8_worthOf_t1_ok 18 rfl
theorem dX8_worthOf_149 : decode cX8_worthOf 149 = .ok (.dmul, 1) := gz_d tdX8_worthOf_t1_ok 19 rfl
theorem dX8_worthOf_150 : decode cX8_worthOf 150 = .ok (.dadd, 1) := gz_d tdX8_worthOf_t1_ok 20 rfl
theorem dX8_worthOf_151 : decode cX8_worthOf 151 = .ok (.dstore 9, 2) := gz_d tdX8_worthOf_t1_ok 21 rfl
theorem dX8_worthOf_153 : decode cX8_worthOf 153 = .ok (.iinc 11 1, 3) := gz_d tdX8_worthOf_t1_ok 22 rfl
theorem dX8_worthOf_156 : decode cX8_worthOf 156 = .ok (.goto (-102), 3) := gz_d tdX8_worthOf_t1_ok 23 rfl
theorem dX8_worthOf_159 : decode cX8_worthOf 159 = .ok (.aload_n 0, 1) := gz_d tdX8_worthOf_t1_ok 24 rfl
theorem dX8_worthOf_160 : decode cX8_worthOf 160 = .ok (.getfield 38, 3) := gz_d tdX8_worthOf_t1_ok 25 rfl
theorem dX8_worthOf_163 : decode cX8_worthOf 163 = .ok (.bipush 9, 2) := gz_d tdX8_worthOf_t1_ok 26 rfl
theorem dX8_worthOf_165 : decode cX8_worthOf 165 = .ok (.iload 6, 2) := gz_d tdX8_worthOf_t1_ok 27 rfl
theorem dX8_worthOf_167 : decode cX8_worthOf 167 = .ok (.imul, 1) := gz_d tdX8_worthOf_t1_ok 28 rfl
theorem dX8_worthOf_168 : decode cX8_worthOf 168 = .ok (.iload 5, 2) := gz_d tdX8_worthOf_t1_ok 29 rfl
theorem dX8_worthOf_170 : decode cX8_worthOf 170 = .ok (.iconst (-1), 1) := gz_d tdX8_worthOf_t1_ok 30 rfl
theorem dX8_worthOf_171 : decode cX8_worthOf 171 = .ok (.if_icmp .ne 8, 3) := gz_d tdX8_worthOf_t1_ok 31 rfl
theorem dX8_worthOf_174 : decode cX8_worthOf 174 = .ok (.bipush 8, 2) := gz_d tdX8_worthOf_t1_ok 32 rfl
theorem dX8_worthOf_176 : decode cX8_worthOf 176 = .ok (.goto 5, 3) := gz_d tdX8_worthOf_t1_ok 33 rfl
theorem dX8_worthOf_179 : decode cX8_worthOf 179 = .ok (.iload 5, 2) := gz_d tdX8_worthOf_t1_ok 34 rfl
theorem dX8_worthOf_181 : decode cX8_worthOf 181 = .ok (.iadd, 1) := gz_d tdX8_worthOf_t1_ok 35 rfl
theorem dX8_worthOf_182 : decode cX8_worthOf 182 = .ok (.dload 9, 2) := gz_d tdX8_worthOf_t1_ok 36 rfl
theorem dX8_worthOf_184 : decode cX8_worthOf 184 = .ok (.dastore, 1) := gz_d tdX8_worthOf_t1_ok 37 rfl
theorem dX8_worthOf_185 : decode cX8_worthOf 185 = .ok (.iinc 6 1, 3) := gz_d tdX8_worthOf_t1_ok 38 rfl
theorem dX8_worthOf_188 : decode cX8_worthOf 188 = .ok (.goto (-171), 3) := gz_d tdX8_worthOf_t1_ok 39 rfl
theorem dX8_worthOf_191 : decode cX8_worthOf 191 = .ok (.iinc 5 (-1), 3) := gz_d tdX8_worthOf_t1_ok 40 rfl
theorem dX8_worthOf_194 : decode cX8_worthOf 194 = .ok (.goto (-186), 3) := gz_d tdX8_worthOf_t1_ok 41 rfl
theorem dX8_worthOf_197 : decode cX8_worthOf 197 = .ok (.aload_n 0, 1) := gz_d tdX8_worthOf_t1_ok 42 rfl
theorem dX8_worthOf_198 : decode cX8_worthOf 198 = .ok (.getfield 38, 3) := gz_d tdX8_worthOf_t1_ok 43 rfl
theorem dX8_worthOf_201 : decode cX8_worthOf 201 = .ok (.bipush 8, 2) := gz_d tdX8_worthOf_t1_ok 44 rfl
theorem dX8_worthOf_203 : decode cX8_worthOf 203 = .ok (.daload, 1) := gz_d tdX8_worthOf_t1_ok 45 rfl
theorem dX8_worthOf_204 : decode cX8_worthOf 204 = .ok (.dreturn, 1) := gz_d tdX8_worthOf_t1_ok 46 rfl
def tdX8_worth_t0 : List (Nat × Instr × Nat) := [(0, .iload_n 1, 1), (1, .invokestatic 117, 3), (4, .ifCond .eq 10, 3), (7, .iload_n 2, 1), (8, .invokestatic 117, 3), (11, .ifCond .ne 7, 3), (14, .ldc2_w 139, 3), (17, .lreturn, 1), (18, .dconst 0, 1), (19, .dstore_n 3, 1), (20, .iconst 0, 1), (21, .istore 5, 2), (23, .iload 5, 2), (25, .aload_n 0, 1), (26, .getfield 23, 3), (29, .iconst 0, 1), (30, .iaload, 1), (31, .if_icmp .ge 61, 3), (34, .iconst 0, 1), (35, .istore 6, 2), (37, .iload 6, 2), (39, .aload_n 0, 1), (40, .getfield 23, 3), (43, .iconst 1, 1), (44, .iaload, 1), (45, .if_icmp .ge 41, 3), (48, .dload_n 3, 1), (49, .aload_n 0, 1), (50, .getfield 26, 3), (53, .iload 5, 2), (55, .iaload, 1), (56, .aload_n 0, 1), (57, .getfield 26, 3), (60, .iconst 4, 1), (61, .iload 6, 2), (63, .iadd, 1), (64, .iaload, 1), (65, .imul, 1), (66, .i2d, 1), (67, .aload_n 0, 1), (68, .iload_n 1, 1), (69, .iload_n 2, 1), (70, .iload 5, 2), (72, .iload 6, 2), (74, .invokevirtual 141, 3), (77, .dmul, 1), (78, .dadd, 1), (79, .dstore_n 3, 1), (80, .iinc 6 1, 3), (83, .goto (-46), 3), (86, .iinc 5 1, 3), (89, .goto (-66), 3), (92, .dload_n 3, 1), (93, .aload_n 0, 1), (94, .aload_n 0, 1), (95, .getfield 7, 3), (98, .aload_n 0, 1), (99, .getfield 13, 3), (102, .iadd, 1), (103, .invokevirtual 114, 3)]
theorem tdX8_worth_t0_ok : gz_dec cX8_worth tdX8_worth_t0 = true := by decide +kernel
theorem dX8_worth_0 : decode cX8_worth 0 = .ok (.iload_n 1, 1) := gz_d tdX8_worth_t0_ok 0 rfl
theorem dX8_worth_1 : decode cX8_worth 1 = .ok (.invokestatic 117, 3) := gz_d tdX8_worth_t0_ok 1 rfl
theorem dX8_worth_4 : decode cX8_worth 4 = .ok (.ifCond .eq 10, 3) := gz_d tdX8_worth_t0_ok 2 rfl
theorem dX8_worth_7 : decode cX8_worth 7 = .ok (.iload_n 2, 1) := gz_d tdX8_worth_t0_ok 3 rfl
theorem dX8_worth_8 : decode cX8_worth 8 = .ok (.invokestatic 117, 3) := gz_d tdX8_worth_t0_ok 4 rfl
theorem dX8_worth_11 : decode cX8_worth 11 = .ok (.ifCond .ne 7, 3) := gz_d tdX8_worth_t0_ok 5 rfl
theorem dX8_worth_14 : decode cX8_worth 14 = .ok (.ldc2_w 139, 3) := gz_d tdX8_worth_t0_ok 6 rfl
theorem dX8_worth_17 : decode cX8_worth 17 = .ok (.lreturn, 1) := gz_d tdX8_worth_t0_ok 7 rfl
theorem dX8_worth_18 : decode cX8_worth 18 = .ok (.dconst 0, 1) := gz_d tdX8_worth_t0_ok 8 rfl
theorem dX8_worth_19 : decode cX8_worth 19 = .ok (.dstore_n 3, 1) := gz_d tdX8_worth_t0_ok 9 rfl
theorem dX8_worth_20 : decode cX8_worth 20 = .ok (.iconst 0, 1) := gz_d tdX8_worth_t0_ok 10 rfl
theorem dX8_worth_21 : decode cX8_worth 21 = .ok (.istore 5, 2) := gz_d tdX8_worth_t0_ok 11 rfl
theorem dX8_worth_23 : decode cX8_worth 23 = .ok (.iload 5, 2) := gz_d tdX8_worth_t0_ok 12 rfl
theorem dX8_worth_25 : decode cX8_worth 25 = .ok (.aload_n 0, 1) := gz_d tdX8_worth_t0_ok 13 rfl
theorem dX8_worth_26 : decode cX8_worth 26 = .ok (.getfield 23, 3) := gz_d tdX8_worth_t0_ok 14 rfl
theorem dX8_worth_29 : decode cX8_worth 29 = .ok (.iconst 0, 1) := gz_d tdX8_worth_t0_ok 15 rfl
theorem dX8_worth_30 : decode cX8_worth 30 = .ok (.iaload, 1) := gz_d tdX8_worth_t0_ok 16 rfl
theorem dX8_worth_31 : decode cX8_worth 31 = .ok (.if_icmp .ge 61, 3) := gz_d tdX8_worth_t0_ok 17 rfl
theorem dX8_worth_34 : decode cX8_worth 34 = .ok (.iconst 0, 1) := gz_d tdX8_worth_t0_ok 18 rfl
theorem dX8_worth_35 : decode cX8_worth 35 = .ok (.istore 6, 2) := gz_d tdX8_worth_t0_ok 19 rfl
theorem dX8_worth_37 : decode cX8_worth 37 = .ok (.iload 6, 2) := gz_d tdX8_worth_t0_ok 20 rfl
theorem dX8_worth_39 : decode cX8_worth 39 = .ok (.aload_n 0, 1) := gz_d tdX8_worth_t0_ok 21 rfl
theorem dX8_worth_40 : decode cX8_worth 40 = .ok (.getfield 23, 3) := gz_d tdX8_worth_t0_ok 22 rfl
theorem dX8_worth_43 : decode cX8_worth 43 = .ok (.iconst 1, 1) := gz_d tdX8_worth_t0_ok 23 rfl
theorem dX8_worth_44 : decode cX8_worth 44 = .ok (.iaload, 1) := gz_d tdX8_worth_t0_ok 24 rfl
theorem dX8_worth_45 : decode cX8_worth 45 = .ok (.if_icmp .ge 41, 3) := gz_d tdX8_worth_t0_ok 25 rfl
theorem dX8_worth_48 : decode cX8_worth 48 = .ok (.dload_n 3, 1) := gz_d tdX8_worth_t0_ok 26 rfl
theorem dX8_worth_49 : decode cX8_worth 49 = .ok (.aload_n 0, 1) := gz_d tdX8_worth_t0_ok 27 rfl
theorem dX8_worth_50 : decode cX8_worth 50 = .ok (.getfield 26, 3) := gz_d tdX8_worth_t0_ok 28 rfl
theorem dX8_worth_53 : decode cX8_worth 53 = .ok (.iload 5, 2) := gz_d tdX8_worth_t0_ok 29 rfl
theorem dX8_worth_55 : decode cX8_worth 55 = .ok (.iaload, 1) := gz_d tdX8_worth_t0_ok 30 rfl
theorem dX8_worth_56 : decode cX8_worth 56 = .ok (.aload_n 0, 1) := gz_d tdX8_worth_t0_ok 31 rfl
theorem dX8_worth_57 : decode cX8_worth 57 = .ok (.getfield 26, 3) := gz_d tdX8_worth_t0_ok 32 rfl
theorem dX8_worth_60 : decode cX8_worth 60 = .ok (.iconst 4, 1) := gz_d tdX8_worth_t0_ok 33 rfl
theorem dX8_worth_61 : decode cX8_worth 61 = .ok (.iload 6, 2) := gz_d tdX8_worth_t0_ok 34 rfl
theorem dX8_worth_63 : decode cX8_worth 63 = .ok (.iadd, 1) := gz_d tdX8_worth_t0_ok 35 rfl
theorem dX8_worth_64 : decode cX8_worth 64 = .ok (.iaload, 1) := gz_d tdX8_worth_t0_ok 36 rfl
theorem dX8_worth_65 : decode cX8_worth 65 = .ok (.imul, 1) := gz_d tdX8_worth_t0_ok 37 rfl
theorem dX8_worth_66 : decode cX8_worth 66 = .ok (.i2d, 1) := gz_d tdX8_worth_t0_ok 38 rfl
theorem dX8_worth_67 : decode cX8_worth 67 = .ok (.aload_n 0, 1) := gz_d tdX8_worth_t0_ok 39 rfl
theorem dX8_worth_68 : decode cX8_worth 68 = .ok (.iload_n 1, 1) := gz_d tdX8_worth_t0_ok 40 rfl
theorem dX8_worth_69 : decode cX8_worth 69 = .ok (.iload_n 2, 1) := gz_d tdX8_worth_t0_ok 41 rfl
theorem dX8_worth_70 : decode cX8_worth 70 = .ok (.iload 5, 2) := gz_d tdX8_worth_t0_ok 42 rfl
theorem dX8_worth_72 : decode cX8_worth 72 = .ok (.iload 6, 2) := gz_d tdX8_worth_t0_ok 43 rfl
theorem dX8_worth_74 : decode cX8_worth 74 = .ok (.invokevirtual 141, 3) := gz_d tdX8_worth_t0_ok 44 rfl
theorem dX8_worth_77 : decode cX8_worth 77 = .ok (.dmul, 1) := gz_d tdX8_worth_t0_ok 45 rfl
theorem dX8_worth_78 : decode cX8_worth 78 = .ok (.dadd, 1) := gz_d tdX8_worth_t0_ok 46 rfl
theorem dX8_worth_79 : decode cX8_worth 79 = .ok (.dstore_n 3, 1) := gz_d tdX8_worth_t0_ok 47 rfl
theorem dX8_worth_80 : decode cX8_worth 80 = .ok (.iinc 6 1, 3) := gz_d tdX8_worth_t0_ok 48 rfl
theorem dX8_worth_83 : decode cX8_worth 83 = .ok (.goto (-46), 3) := gz_d tdX8_worth_t0_ok 49 rfl
theorem dX8_worth_86 : decode cX8_worth 86 = .ok (.iinc 5 1, 3) := gz_d tdX8_worth_t0_ok 50 rfl
theorem dX8_worth_89 : decode cX8_worth 89 = .ok (.goto (-66), 3) := gz_d tdX8_worth_t0_ok 51 rfl
theorem dX8_worth_92 : decode cX8_worth 92 = .ok (.dload_n 3, 1) := gz_d tdX8_worth_t0_ok 52 rfl
theorem dX8_worth_93 : decode cX8_worth 93 = .ok (.aload_n 0, 1) := gz_d tdX8_worth_t0_ok 53 rfl
theorem dX8_worth_94 : decode cX8_worth 94 = .ok (.aload_n 0, 1) := gz_d tdX8_worth_t0_ok 54 rfl
theorem dX8_worth_95 : decode cX8_worth 95 = .ok (.getfield 7, 3) := gz_d tdX8_worth_t0_ok 55 rfl
theorem dX8_worth_98 : decode cX8_worth 98 = .ok (.aload_n 0, 1) := gz_d tdX8_worth_t0_ok 56 rfl
theorem dX8_worth_99 : decode cX8_worth 99 = .ok (.getfield 13, 3) := gz_d tdX8_worth_t0_ok 57 rfl
theorem dX8_worth_102 : decode cX8_worth 102 = .ok (.iadd, 1) := gz_d tdX8_worth_t0_ok 58 rfl
theorem dX8_worth_103 : decode cX8_worth 103 = .ok (.invokevirtual 114, 3) := gz_d tdX8_worth_t0_ok 59 rfl
def tdX8_worth_t1 : List (Nat × Instr × Nat) := [(106, .i2d, 1), (107, .ddiv, 1), (108, .invokestatic 145, 3), (111, .lreturn, 1)]
theorem tdX8_worth_t1_ok : gz_dec cX8_worth tdX8_worth_t1 = true := by decide +kernel
theorem dX8_worth_106 : decode cX8_worth 106 = .ok (.i2d, 1) := gz_d tdX8_worth_t1_ok 0 rfl
theorem dX8_worth_107 : decode cX8_worth 107 = .ok (.ddiv, 1) := gz_d tdX8_worth_t1_ok 1 rfl
theorem dX8_worth_108 : decode cX8_worth 108 = .ok (.invokestatic 145, 3) := gz_d tdX8_worth_t1_ok 2 rfl
theorem dX8_worth_111 : decode cX8_worth 111 = .ok (.lreturn, 1) := gz_d tdX8_worth_t1_ok 3 rfl
def tdX8_enter_t0 : List (Nat × Instr × Nat) := [(0, .aload_n 0, 1), (1, .getfield 45, 3), (4, .iload_n 1, 1), (5, .iload_n 2, 1), (6, .iastore, 1), (7, .aload_n 0, 1), (8, .getfield 48, 3), (11, .iload_n 1, 1), (12, .iconst (-1), 1), (13, .iastore, 1), (14, .aload_n 0, 1), (15, .getfield 51, 3), (18, .iload_n 1, 1), (19, .dconst 0, 1), (20, .dastore, 1), (21, .aload_n 0, 1), (22, .getfield 54, 3), (25, .iload_n 1, 1), (26, .iconst (-1), 1), (27, .iastore, 1), (28, .aload_n 0, 1), (29, .getfield 57, 3), (32, .iload_n 1, 1), (33, .iconst 0, 1), (34, .bastore, 1), (35, .return_, 1)]
theorem tdX8_enter_t0_ok : gz_dec cX8_enter tdX8_enter_t0 = true := by decide +kernel
theorem dX8_enter_0 : decode cX8_enter 0 = .ok (.aload_n 0, 1) := gz_d tdX8_enter_t0_ok 0 rfl
theorem dX8_enter_1 : decode cX8_enter 1 = .ok (.getfield 45, 3) := gz_d tdX8_enter_t0_ok 1 rfl
theorem dX8_enter_4 : decode cX8_enter 4 = .ok (.iload_n 1, 1) := gz_d tdX8_enter_t0_ok 2 rfl
theorem dX8_enter_5 : decode cX8_enter 5 = .ok (.iload_n 2, 1) := gz_d tdX8_enter_t0_ok 3 rfl
theorem dX8_enter_6 : decode cX8_enter 6 = .ok (.iastore, 1) := gz_d tdX8_enter_t0_ok 4 rfl
theorem dX8_enter_7 : decode cX8_enter 7 = .ok (.aload_n 0, 1) := gz_d tdX8_enter_t0_ok 5 rfl
theorem dX8_enter_8 : decode cX8_enter 8 = .ok (.getfield 48, 3) := gz_d tdX8_enter_t0_ok 6 rfl
theorem dX8_enter_11 : decode cX8_enter 11 = .ok (.iload_n 1, 1) := gz_d tdX8_enter_t0_ok 7 rfl
theorem dX8_enter_12 : decode cX8_enter 12 = .ok (.iconst (-1), 1) := gz_d tdX8_enter_t0_ok 8 rfl
theorem dX8_enter_13 : decode cX8_enter 13 = .ok (.iastore, 1) := gz_d tdX8_enter_t0_ok 9 rfl
theorem dX8_enter_14 : decode cX8_enter 14 = .ok (.aload_n 0, 1) := gz_d tdX8_enter_t0_ok 10 rfl
theorem dX8_enter_15 : decode cX8_enter 15 = .ok (.getfield 51, 3) := gz_d tdX8_enter_t0_ok 11 rfl
theorem dX8_enter_18 : decode cX8_enter 18 = .ok (.iload_n 1, 1) := gz_d tdX8_enter_t0_ok 12 rfl
theorem dX8_enter_19 : decode cX8_enter 19 = .ok (.dconst 0, 1) := gz_d tdX8_enter_t0_ok 13 rfl
theorem dX8_enter_20 : decode cX8_enter 20 = .ok (.dastore, 1) := gz_d tdX8_enter_t0_ok 14 rfl
theorem dX8_enter_21 : decode cX8_enter 21 = .ok (.aload_n 0, 1) := gz_d tdX8_enter_t0_ok 15 rfl
theorem dX8_enter_22 : decode cX8_enter 22 = .ok (.getfield 54, 3) := gz_d tdX8_enter_t0_ok 16 rfl
theorem dX8_enter_25 : decode cX8_enter 25 = .ok (.iload_n 1, 1) := gz_d tdX8_enter_t0_ok 17 rfl
theorem dX8_enter_26 : decode cX8_enter 26 = .ok (.iconst (-1), 1) := gz_d tdX8_enter_t0_ok 18 rfl
theorem dX8_enter_27 : decode cX8_enter 27 = .ok (.iastore, 1) := gz_d tdX8_enter_t0_ok 19 rfl
theorem dX8_enter_28 : decode cX8_enter 28 = .ok (.aload_n 0, 1) := gz_d tdX8_enter_t0_ok 20 rfl
theorem dX8_enter_29 : decode cX8_enter 29 = .ok (.getfield 57, 3) := gz_d tdX8_enter_t0_ok 21 rfl
theorem dX8_enter_32 : decode cX8_enter 32 = .ok (.iload_n 1, 1) := gz_d tdX8_enter_t0_ok 22 rfl
theorem dX8_enter_33 : decode cX8_enter 33 = .ok (.iconst 0, 1) := gz_d tdX8_enter_t0_ok 23 rfl
theorem dX8_enter_34 : decode cX8_enter 34 = .ok (.bastore, 1) := gz_d tdX8_enter_t0_ok 24 rfl
theorem dX8_enter_35 : decode cX8_enter 35 = .ok (.return_, 1) := gz_d tdX8_enter_t0_ok 25 rfl
def tdX8_offer_t0 : List (Nat × Instr × Nat) := [(0, .aload_n 0, 1), (1, .getfield 57, 3), (4, .iload_n 1, 1), (5, .baload, 1), (6, .ifCond .eq 14, 3), (9, .dload_n 2, 1), (10, .aload_n 0, 1), (11, .getfield 51, 3), (14, .iload_n 1, 1), (15, .daload, 1), (16, .dcmp .l, 1), (17, .ifCond .le 29, 3), (20, .aload_n 0, 1), (21, .getfield 57, 3), (24, .iload_n 1, 1), (25, .iconst 1, 1), (26, .bastore, 1), (27, .aload_n 0, 1), (28, .getfield 51, 3), (31, .iload_n 1, 1), (32, .dload_n 2, 1), (33, .dastore, 1), (34, .aload_n 0, 1), (35, .getfield 54, 3), (38, .iload_n 1, 1), (39, .aload_n 0, 1), (40, .getfield 48, 3), (43, .iload_n 1, 1), (44, .iaload, 1), (45, .iastore, 1), (46, .return_, 1)]
theorem tdX8_offer_t0_ok : gz_dec cX8_offer tdX8_offer_t0 = true := by decide +kernel
theorem dX8_offer_0 : decode cX8_offer 0 = .ok (.aload_n 0, 1) := gz_d tdX8_offer_t0_ok 0 rfl
theorem dX8_offer_1 : decode cX8_offer 1 = .ok (.getfield 57, 3) := gz_d tdX8_offer_t0_ok 1 rfl
theorem dX8_offer_4 : decode cX8_offer 4 = .ok (.iload_n 1, 1) := gz_d tdX8_offer_t0_ok 2 rfl
theorem dX8_offer_5 : decode cX8_offer 5 = .ok (.baload, 1) := gz_d tdX8_offer_t0_ok 3 rfl
theorem dX8_offer_6 : decode cX8_offer 6 = .ok (.ifCond .eq 14, 3) := gz_d tdX8_offer_t0_ok 4 rfl
theorem dX8_offer_9 : decode cX8_offer 9 = .ok (.dload_n 2, 1) := gz_d tdX8_offer_t0_ok 5 rfl
theorem dX8_offer_10 : decode cX8_offer 10 = .ok (.aload_n 0, 1) := gz_d tdX8_offer_t0_ok 6 rfl
theorem dX8_offer_11 : decode cX8_offer 11 = .ok (.getfield 51, 3) := gz_d tdX8_offer_t0_ok 7 rfl
theorem dX8_offer_14 : decode cX8_offer 14 = .ok (.iload_n 1, 1) := gz_d tdX8_offer_t0_ok 8 rfl
theorem dX8_offer_15 : decode cX8_offer 15 = .ok (.daload, 1) := gz_d tdX8_offer_t0_ok 9 rfl
theorem dX8_offer_16 : decode cX8_offer 16 = .ok (.dcmp .l, 1) := gz_d tdX8_offer_t0_ok 10 rfl
theorem dX8_offer_17 : decode cX8_offer 17 = .ok (.ifCond .le 29, 3) := gz_d tdX8_offer_t0_ok 11 rfl
theorem dX8_offer_20 : decode cX8_offer 20 = .ok (.aload_n 0, 1) := gz_d tdX8_offer_t0_ok 12 rfl
theorem dX8_offer_21 : decode cX8_offer 21 = .ok (.getfield 57, 3) := gz_d tdX8_offer_t0_ok 13 rfl
theorem dX8_offer_24 : decode cX8_offer 24 = .ok (.iload_n 1, 1) := gz_d tdX8_offer_t0_ok 14 rfl
theorem dX8_offer_25 : decode cX8_offer 25 = .ok (.iconst 1, 1) := gz_d tdX8_offer_t0_ok 15 rfl
theorem dX8_offer_26 : decode cX8_offer 26 = .ok (.bastore, 1) := gz_d tdX8_offer_t0_ok 16 rfl
theorem dX8_offer_27 : decode cX8_offer 27 = .ok (.aload_n 0, 1) := gz_d tdX8_offer_t0_ok 17 rfl
theorem dX8_offer_28 : decode cX8_offer 28 = .ok (.getfield 51, 3) := gz_d tdX8_offer_t0_ok 18 rfl
theorem dX8_offer_31 : decode cX8_offer 31 = .ok (.iload_n 1, 1) := gz_d tdX8_offer_t0_ok 19 rfl
theorem dX8_offer_32 : decode cX8_offer 32 = .ok (.dload_n 2, 1) := gz_d tdX8_offer_t0_ok 20 rfl
theorem dX8_offer_33 : decode cX8_offer 33 = .ok (.dastore, 1) := gz_d tdX8_offer_t0_ok 21 rfl
theorem dX8_offer_34 : decode cX8_offer 34 = .ok (.aload_n 0, 1) := gz_d tdX8_offer_t0_ok 22 rfl
theorem dX8_offer_35 : decode cX8_offer 35 = .ok (.getfield 54, 3) := gz_d tdX8_offer_t0_ok 23 rfl
theorem dX8_offer_38 : decode cX8_offer 38 = .ok (.iload_n 1, 1) := gz_d tdX8_offer_t0_ok 24 rfl
theorem dX8_offer_39 : decode cX8_offer 39 = .ok (.aload_n 0, 1) := gz_d tdX8_offer_t0_ok 25 rfl
theorem dX8_offer_40 : decode cX8_offer 40 = .ok (.getfield 48, 3) := gz_d tdX8_offer_t0_ok 26 rfl
theorem dX8_offer_43 : decode cX8_offer 43 = .ok (.iload_n 1, 1) := gz_d tdX8_offer_t0_ok 27 rfl
theorem dX8_offer_44 : decode cX8_offer 44 = .ok (.iaload, 1) := gz_d tdX8_offer_t0_ok 28 rfl
theorem dX8_offer_45 : decode cX8_offer 45 = .ok (.iastore, 1) := gz_d tdX8_offer_t0_ok 29 rfl
theorem dX8_offer_46 : decode cX8_offer 46 = .ok (.return_, 1) := gz_d tdX8_offer_t0_ok 30 rfl
def tdX8_leads_t0 : List (Nat × Instr × Nat) := [(0, .iconst 1, 1), (1, .iload_n 1, 1), (2, .isub, 1), (3, .istore 5, 2), (5, .iconst 0, 1), (6, .istore 6, 2), (8, .iconst 0, 1), (9, .istore 7, 2), (11, .iload 7, 2), (13, .aload_n 0, 1), (14, .getfield 23, 3), (17, .iload 5, 2), (19, .iaload, 1), (20, .if_icmp .ge 74, 3), (23, .aload_n 0, 1), (24, .getfield 42, 3), (27, .iconst 4, 1), (28, .iload_n 3, 1), (29, .imul, 1), (30, .iload 7, 2), (32, .iadd, 1), (33, .daload, 1), (34, .aload_n 0, 1), (35, .iload_n 2, 1), (36, .iload 5, 2), (38, .iload 7, 2), (40, .aload_n 0, 1), (41, .getfield 45, 3), (44, .iload_n 3, 1), (45, .iaload, 1), (46, .iload 4, 2), (48, .invokevirtual 131, 3), (51, .dmul, 1), (52, .dstore 8, 2), (54, .aload_n 0, 1), (55, .getfield 42, 3), (58, .iconst 4, 1), (59, .iload_n 3, 1), (60, .imul, 1), (61, .iconst 4, 1), (62, .iadd, 1), (63, .iload 7, 2), (65, .iadd, 1), (66, .dload 8, 2), (68, .dastore, 1), (69, .iload 6, 2), (71, .ifCond .ne 10, 3), (74, .dload 8, 2), (76, .dconst 0, 1), (77, .dcmp .l, 1), (78, .ifCond .eq 7, 3), (81, .iconst 1, 1), (82, .goto 4, 3), (85, .iconst 0, 1), (86, .istore 6, 2), (88, .iinc 7 1, 3), (91, .goto (-80), 3), (94, .iload 6, 2), (96, .ireturn, 1)]
theorem tdX8_leads_t0_ok : gz_dec cX8_leads tdX8_leads_t0 = true := by decide +kernel
theorem dX8_leads_0 : decode cX8_leads 0 = .ok (.iconst 1, 1) := gz_d tdX8_leads_t0_ok 0 rfl
theorem dX8_leads_1 : decode cX8_leads 1 = .ok (.iload_n 1, 1) := gz_d tdX8_leads_t0_ok 1 rfl
theorem dX8_leads_2 : decode cX8_leads 2 = .ok (.isub, 1) := gz_d tdX8_leads_t0_ok 2 rfl
theorem dX8_leads_3 : decode cX8_leads 3 = .ok (.istore 5, 2) := gz_d tdX8_leads_t0_ok 3 rfl
theorem dX8_leads_5 : decode cX8_leads 5 = .ok (.iconst 0, 1) := gz_d tdX8_leads_t0_ok 4 rfl
theorem dX8_leads_6 : decode cX8_leads 6 = .ok (.istore 6, 2) := gz_d tdX8_leads_t0_ok 5 rfl
theorem dX8_leads_8 : decode cX8_leads 8 = .ok (.iconst 0, 1) := gz_d tdX8_leads_t0_ok 6 rfl
theorem dX8_leads_9 : decode cX8_leads 9 = .ok (.istore 7, 2) := gz_d tdX8_leads_t0_ok 7 rfl
theorem dX8_leads_11 : decode cX8_leads 11 = .ok (.iload 7, 2) := gz_d tdX8_leads_t0_ok 8 rfl
theorem dX8_leads_13 : decode cX8_leads 13 = .ok (.aload_n 0, 1) := gz_d tdX8_leads_t0_ok 9 rfl
theorem dX8_leads_14 : decode cX8_leads 14 = .ok (.getfield 23, 3) := gz_d tdX8_leads_t0_ok 10 rfl
theorem dX8_leads_17 : decode cX8_leads 17 = .ok (.iload 5, 2) := gz_d tdX8_leads_t0_ok 11 rfl
theorem dX8_leads_19 : decode cX8_leads 19 = .ok (.iaload, 1) := gz_d tdX8_leads_t0_ok 12 rfl
theorem dX8_leads_20 : decode cX8_leads 20 = .ok (.if_icmp .ge 74, 3) := gz_d tdX8_leads_t0_ok 13 rfl
theorem dX8_leads_23 : decode cX8_leads 23 = .ok (.aload_n 0, 1) := gz_d tdX8_leads_t0_ok 14 rfl
theorem dX8_leads_24 : decode cX8_leads 24 = .ok (.getfield 42, 3) := gz_d tdX8_leads_t0_ok 15 rfl
theorem dX8_leads_27 : decode cX8_leads 27 = .ok (.iconst 4, 1) := gz_d tdX8_leads_t0_ok 16 rfl
theorem dX8_leads_28 : decode cX8_leads 28 = .ok (.iload_n 3, 1) := gz_d tdX8_leads_t0_ok 17 rfl
theorem dX8_leads_29 : decode cX8_leads 29 = .ok (.imul, 1) := gz_d tdX8_leads_t0_ok 18 rfl
theorem dX8_leads_30 : decode cX8_leads 30 = .ok (.iload 7, 2) := gz_d tdX8_leads_t0_ok 19 rfl
theorem dX8_leads_32 : decode cX8_leads 32 = .ok (.iadd, 1) := gz_d tdX8_leads_t0_ok 20 rfl
theorem dX8_leads_33 : decode cX8_leads 33 = .ok (.daload, 1) := gz_d tdX8_leads_t0_ok 21 rfl
theorem dX8_leads_34 : decode cX8_leads 34 = .ok (.aload_n 0, 1) := gz_d tdX8_leads_t0_ok 22 rfl
theorem dX8_leads_35 : decode cX8_leads 35 = .ok (.iload_n 2, 1) := gz_d tdX8_leads_t0_ok 23 rfl
theorem dX8_leads_36 : decode cX8_leads 36 = .ok (.iload 5, 2) := gz_d tdX8_leads_t0_ok 24 rfl
theorem dX8_leads_38 : decode cX8_leads 38 = .ok (.iload 7, 2) := gz_d tdX8_leads_t0_ok 25 rfl
theorem dX8_leads_40 : decode cX8_leads 40 = .ok (.aload_n 0, 1) := gz_d tdX8_leads_t0_ok 26 rfl
theorem dX8_leads_41 : decode cX8_leads 41 = .ok (.getfield 45, 3) := gz_d tdX8_leads_t0_ok 27 rfl
theorem dX8_leads_44 : decode cX8_leads 44 = .ok (.iload_n 3, 1) := gz_d tdX8_leads_t0_ok 28 rfl
theorem dX8_leads_45 : decode cX8_leads 45 = .ok (.iaload, 1) := gz_d tdX8_leads_t0_ok 29 rfl
theorem dX8_leads_46 : decode cX8_leads 46 = .ok (.iload 4, 2) := gz_d tdX8_leads_t0_ok 30 rfl
theorem dX8_leads_48 : decode cX8_leads 48 = .ok (.invokevirtual 131, 3) := gz_d tdX8_leads_t0_ok 31 rfl
theorem dX8_leads_51 : decode cX8_leads 51 = .ok (.dmul, 1) := gz_d tdX8_leads_t0_ok 32 rfl
theorem dX8_leads_52 : decode cX8_leads 52 = .ok (.dstore 8, 2) := gz_d tdX8_leads_t0_ok 33 rfl
theorem dX8_leads_54 : decode cX8_leads 54 = .ok (.aload_n 0, 1) := gz_d tdX8_leads_t0_ok 34 rfl
theorem dX8_leads_55 : decode cX8_leads 55 = .ok (.getfield 42, 3) := gz_d tdX8_leads_t0_ok 35 rfl
theorem dX8_leads_58 : decode cX8_leads 58 = .ok (.iconst 4, 1) := gz_d tdX8_leads_t0_ok 36 rfl
theorem dX8_leads_59 : decode cX8_leads 59 = .ok (.iload_n 3, 1) := gz_d tdX8_leads_t0_ok 37 rfl
theorem dX8_leads_60 : decode cX8_leads 60 = .ok (.imul, 1) := gz_d tdX8_leads_t0_ok 38 rfl
theorem dX8_leads_61 : decode cX8_leads 61 = .ok (.iconst 4, 1) := gz_d tdX8_leads_t0_ok 39 rfl
theorem dX8_leads_62 : decode cX8_leads 62 = .ok (.iadd, 1) := gz_d tdX8_leads_t0_ok 40 rfl
theorem dX8_leads_63 : decode cX8_leads 63 = .ok (.iload 7, 2) := gz_d tdX8_leads_t0_ok 41 rfl
theorem dX8_leads_65 : decode cX8_leads 65 = .ok (.iadd, 1) := gz_d tdX8_leads_t0_ok 42 rfl
theorem dX8_leads_66 : decode cX8_leads 66 = .ok (.dload 8, 2) := gz_d tdX8_leads_t0_ok 43 rfl
theorem dX8_leads_68 : decode cX8_leads 68 = .ok (.dastore, 1) := gz_d tdX8_leads_t0_ok 44 rfl
theorem dX8_leads_69 : decode cX8_leads 69 = .ok (.iload 6, 2) := gz_d tdX8_leads_t0_ok 45 rfl
theorem dX8_leads_71 : decode cX8_leads 71 = .ok (.ifCond .ne 10, 3) := gz_d tdX8_leads_t0_ok 46 rfl
theorem dX8_leads_74 : decode cX8_leads 74 = .ok (.dload 8, 2) := gz_d tdX8_leads_t0_ok 47 rfl
theorem dX8_leads_76 : decode cX8_leads 76 = .ok (.dconst 0, 1) := gz_d tdX8_leads_t0_ok 48 rfl
theorem dX8_leads_77 : decode cX8_leads 77 = .ok (.dcmp .l, 1) := gz_d tdX8_leads_t0_ok 49 rfl
theorem dX8_leads_78 : decode cX8_leads 78 = .ok (.ifCond .eq 7, 3) := gz_d tdX8_leads_t0_ok 50 rfl
theorem dX8_leads_81 : decode cX8_leads 81 = .ok (.iconst 1, 1) := gz_d tdX8_leads_t0_ok 51 rfl
theorem dX8_leads_82 : decode cX8_leads 82 = .ok (.goto 4, 3) := gz_d tdX8_leads_t0_ok 52 rfl
theorem dX8_leads_85 : decode cX8_leads 85 = .ok (.iconst 0, 1) := gz_d tdX8_leads_t0_ok 53 rfl
theorem dX8_leads_86 : decode cX8_leads 86 = .ok (.istore 6, 2) := gz_d tdX8_leads_t0_ok 54 rfl
theorem dX8_leads_88 : decode cX8_leads 88 = .ok (.iinc 7 1, 3) := gz_d tdX8_leads_t0_ok 55 rfl
theorem dX8_leads_91 : decode cX8_leads 91 = .ok (.goto (-80), 3) := gz_d tdX8_leads_t0_ok 56 rfl
theorem dX8_leads_94 : decode cX8_leads 94 = .ok (.iload 6, 2) := gz_d tdX8_leads_t0_ok 57 rfl
theorem dX8_leads_96 : decode cX8_leads 96 = .ok (.ireturn, 1) := gz_d tdX8_leads_t0_ok 58 rfl
def tdX8_winsBy_t0 : List (Nat × Instr × Nat) := [(0, .aload_n 0, 1), (1, .iload_n 1, 1), (2, .iload_n 2, 1), (3, .iload_n 1, 1), (4, .ifCond .ne 7, 3), (7, .iload_n 3, 1), (8, .goto 5, 3), (11, .iload 4, 2), (13, .iload_n 1, 1), (14, .ifCond .ne 8, 3), (17, .iload 4, 2), (19, .goto 4, 3), (22, .iload_n 3, 1), (23, .iload 5, 2), (25, .invokevirtual 135, 3), (28, .ireturn, 1)]
theorem tdX8_winsBy_t0_ok : gz_dec cX8_winsBy tdX8_winsBy_t0 = true := by decide +kernel
theorem dX8_winsBy_0 : decode cX8_winsBy 0 = .ok (.aload_n 0, 1) := gz_d tdX8_winsBy_t0_ok 0 rfl
theorem dX8_winsBy_1 : decode cX8_winsBy 1 = .ok (.iload_n 1, 1) := gz_d tdX8_winsBy_t0_ok 1 rfl
theorem dX8_winsBy_2 : decode cX8_winsBy 2 = .ok (.iload_n 2, 1) := gz_d tdX8_winsBy_t0_ok 2 rfl
theorem dX8_winsBy_3 : decode cX8_winsBy 3 = .ok (.iload_n 1, 1) := gz_d tdX8_winsBy_t0_ok 3 rfl
theorem dX8_winsBy_4 : decode cX8_winsBy 4 = .ok (.ifCond .ne 7, 3) := gz_d tdX8_winsBy_t0_ok 4 rfl
theorem dX8_winsBy_7 : decode cX8_winsBy 7 = .ok (.iload_n 3, 1) := gz_d tdX8_winsBy_t0_ok 5 rfl
theorem dX8_winsBy_8 : decode cX8_winsBy 8 = .ok (.goto 5, 3) := gz_d tdX8_winsBy_t0_ok 6 rfl
theorem dX8_winsBy_11 : decode cX8_winsBy 11 = .ok (.iload 4, 2) := gz_d tdX8_winsBy_t0_ok 7 rfl
theorem dX8_winsBy_13 : decode cX8_winsBy 13 = .ok (.iload_n 1, 1) := gz_d tdX8_winsBy_t0_ok 8 rfl
theorem dX8_winsBy_14 : decode cX8_winsBy 14 = .ok (.ifCond .ne 8, 3) := gz_d tdX8_winsBy_t0_ok 9 rfl
theorem dX8_winsBy_17 : decode cX8_winsBy 17 = .ok (.iload 4, 2) := gz_d tdX8_winsBy_t0_ok 10 rfl
theorem dX8_winsBy_19 : decode cX8_winsBy 19 = .ok (.goto 4, 3) := gz_d tdX8_winsBy_t0_ok 11 rfl
theorem dX8_winsBy_22 : decode cX8_winsBy 22 = .ok (.iload_n 3, 1) := gz_d tdX8_winsBy_t0_ok 12 rfl
theorem dX8_winsBy_23 : decode cX8_winsBy 23 = .ok (.iload 5, 2) := gz_d tdX8_winsBy_t0_ok 13 rfl
theorem dX8_winsBy_25 : decode cX8_winsBy 25 = .ok (.invokevirtual 135, 3) := gz_d tdX8_winsBy_t0_ok 14 rfl
theorem dX8_winsBy_28 : decode cX8_winsBy 28 = .ok (.ireturn, 1) := gz_d tdX8_winsBy_t0_ok 15 rfl
def tdX8_call_t0 : List (Nat × Instr × Nat) := [(0, .iload 4, 2), (2, .iconst 2, 1), (3, .irem, 1), (4, .istore 5, 2), (6, .iconst 1, 1), (7, .iload_n 1, 1), (8, .isub, 1), (9, .istore 6, 2), (11, .iload 5, 2), (13, .iload_n 1, 1), (14, .if_icmp .ne 75, 3), (17, .dconst 0, 1), (18, .dstore 7, 2), (20, .iconst 0, 1), (21, .istore 9, 2), (23, .iload 9, 2), (25, .aload_n 0, 1), (26, .getfield 23, 3), (29, .iload 6, 2), (31, .iaload, 1), (32, .if_icmp .ge 46, 3), (35, .aload_n 0, 1), (36, .iload_n 1, 1), (37, .iload 5, 2), (39, .iload_n 3, 1), (40, .iload 9, 2), (42, .aload_n 0, 1), (43, .getfield 45, 3), (46, .iload 4, 2), (48, .iaload, 1), (49, .invokevirtual 151, 3), (52, .ifCond .eq 20, 3), (55, .dload 7, 2), (57, .aload_n 0, 1), (58, .getfield 42, 3), (61, .iconst 4, 1), (62, .iload 4, 2), (64, .imul, 1), (65, .iload 9, 2), (67, .iadd, 1), (68, .daload, 1), (69, .dadd, 1), (70, .dstore 7, 2), (72, .iinc 9 1, 3), (75, .goto (-52), 3), (78, .aload_n 0, 1), (79, .iload 4, 2), (81, .dload 7, 2), (83, .invokevirtual 154, 3), (86, .goto 85, 3), (89, .aload_n 0, 1), (90, .iload_n 1, 1), (91, .iload_n 2, 1), (92, .iload 4, 2), (94, .iconst (-1), 1), (95, .invokevirtual 158, 3), (98, .ifCond .eq 73, 3), (101, .iconst 0, 1), (102, .istore 7, 2), (104, .iload 7, 2)]
theorem tdX8_call_t0_ok : gz_dec cX8_call tdX8_call_t0 = true := by decide +kernel
theorem dX8_call_0 : decode cX8_call 0 = .ok (.iload 4, 2) := gz_d tdX8_call_t0_ok 0 rfl
theorem dX8_call_2 : decode cX8_call 2 = .ok (.iconst 2, 1) := gz_d tdX8_call_t0_ok 1 rfl
theorem dX8_call_3 : decode cX8_call 3 = .ok (.irem, 1) := gz_d tdX8_call_t0_ok 2 rfl
theorem dX8_call_4 : decode cX8_call 4 = .ok (.istore 5, 2) := gz_d tdX8_call_t0_ok 3 rfl
theorem dX8_call_6 : decode cX8_call 6 = .ok (.iconst 1, 1) := gz_d tdX8_call_t0_ok 4 rfl
theorem dX8_call_7 : decode cX8_call 7 = .ok (.iload_n 1, 1) := gz_d tdX8_call_t0_ok 5 rfl
theorem dX8_call_8 : decode cX8_call 8 = .ok (.isub, 1) := gz_d tdX8_call_t0_ok 6 rfl
theorem dX8_call_9 : decode cX8_call 9 = .ok (.istore 6, 2) := gz_d tdX8_call_t0_ok 7 rfl
theorem dX8_call_11 : decode cX8_call 11 = .ok (.iload 5, 2) := gz_d tdX8_call_t0_ok 8 rfl
theorem dX8_call_13 : decode cX8_call 13 = .ok (.iload_n 1, 1) := gz_d tdX8_call_t0_ok 9 rfl
theorem dX8_call_14 : decode cX8_call 14 = .ok (.if_icmp .ne 75, 3) := gz_d tdX8_call_t0_ok 10 rfl
theorem dX8_call_17 : decode cX8_call 17 = .ok (.dconst 0, 1) := gz_d tdX8_call_t0_ok 11 rfl
theorem dX8_call_18 : decode cX8_call 18 = .ok (.dstore 7, 2) := gz_d tdX8_call_t0_ok 12 rfl
theorem dX8_call_20 : decode cX8_call 20 = .ok (.iconst 0, 1) := gz_d tdX8_call_t0_ok 13 rfl
theorem dX8_call_21 : decode cX8_call 21 = .ok (.istore 9, 2) := gz_d tdX8_call_t0_ok 14 rfl
theorem dX8_call_23 : decode cX8_call 23 = .ok (.iload 9, 2) := gz_d tdX8_call_t0_ok 15 rfl
theorem dX8_call_25 : decode cX8_call 25 = .ok (.aload_n 0, 1) := gz_d tdX8_call_t0_ok 16 rfl
theorem dX8_call_26 : decode cX8_call 26 = .ok (.getfield 23, 3) := gz_d tdX8_call_t0_ok 17 rfl
theorem dX8_call_29 : decode cX8_call 29 = .ok (.iload 6, 2) := gz_d tdX8_call_t0_ok 18 rfl
theorem dX8_call_31 : decode cX8_call 31 = .ok (.iaload, 1) := gz_d tdX8_call_t0_ok 19 rfl
theorem dX8_call_32 : decode cX8_call 32 = .ok (.if_icmp .ge 46, 3) := gz_d tdX8_call_t0_ok 20 rfl
theorem dX8_call_35 : decode cX8_call 35 = .ok (.aload_n 0, 1) := gz_d tdX8_call_t0_ok 21 rfl
theorem dX8_call_36 : decode cX8_call 36 = .ok (.iload_n 1, 1) := gz_d tdX8_call_t0_ok 22 rfl
theorem dX8_call_37 : decode cX8_call 37 = .ok (.iload 5, 2) := gz_d tdX8_call_t0_ok 23 rfl
theorem dX8_call_39 : decode cX8_call 39 = .ok (.iload_n 3, 1) := gz_d tdX8_call_t0_ok 24 rfl
theorem dX8_call_40 : decode cX8_call 40 = .ok (.iload 9, 2) := gz_d tdX8_call_t0_ok 25 rfl
theorem dX8_call_42 : decode cX8_call 42 = .ok (.aload_n 0, 1) := gz_d tdX8_call_t0_ok 26 rfl
theorem dX8_call_43 : decode cX8_call 43 = .ok (.getfield 45, 3) := gz_d tdX8_call_t0_ok 27 rfl
theorem dX8_call_46 : decode cX8_call 46 = .ok (.iload 4, 2) := gz_d tdX8_call_t0_ok 28 rfl
theorem dX8_call_48 : decode cX8_call 48 = .ok (.iaload, 1) := gz_d tdX8_call_t0_ok 29 rfl
theorem dX8_call_49 : decode cX8_call 49 = .ok (.invokevirtual 151, 3) := gz_d tdX8_call_t0_ok 30 rfl
theorem dX8_call_52 : decode cX8_call 52 = .ok (.ifCond .eq 20, 3) := gz_d tdX8_call_t0_ok 31 rfl
theorem dX8_call_55 : decode cX8_call 55 = .ok (.dload 7, 2) := gz_d tdX8_call_t0_ok 32 rfl
theorem dX8_call_57 : decode cX8_call 57 = .ok (.aload_n 0, 1) := gz_d tdX8_call_t0_ok 33 rfl
theorem dX8_call_58 : decode cX8_call 58 = .ok (.getfield 42, 3) := gz_d tdX8_call_t0_ok 34 rfl
theorem dX8_call_61 : decode cX8_call 61 = .ok (.iconst 4, 1) := gz_d tdX8_call_t0_ok 35 rfl
theorem dX8_call_62 : decode cX8_call 62 = .ok (.iload 4, 2) := gz_d tdX8_call_t0_ok 36 rfl
theorem dX8_call_64 : decode cX8_call 64 = .ok (.imul, 1) := gz_d tdX8_call_t0_ok 37 rfl
theorem dX8_call_65 : decode cX8_call 65 = .ok (.iload 9, 2) := gz_d tdX8_call_t0_ok 38 rfl
theorem dX8_call_67 : decode cX8_call 67 = .ok (.iadd, 1) := gz_d tdX8_call_t0_ok 39 rfl
theorem dX8_call_68 : decode cX8_call 68 = .ok (.daload, 1) := gz_d tdX8_call_t0_ok 40 rfl
theorem dX8_call_69 : decode cX8_call 69 = .ok (.dadd, 1) := gz_d tdX8_call_t0_ok 41 rfl
theorem dX8_call_70 : decode cX8_call 70 = .ok (.dstore 7, 2) := gz_d tdX8_call_t0_ok 42 rfl
theorem dX8_call_72 : decode cX8_call 72 = .ok (.iinc 9 1, 3) := gz_d tdX8_call_t0_ok 43 rfl
theorem dX8_call_75 : decode cX8_call 75 = .ok (.goto (-52), 3) := gz_d tdX8_call_t0_ok 44 rfl
theorem dX8_call_78 : decode cX8_call 78 = .ok (.aload_n 0, 1) := gz_d tdX8_call_t0_ok 45 rfl
theorem dX8_call_79 : decode cX8_call 79 = .ok (.iload 4, 2) := gz_d tdX8_call_t0_ok 46 rfl
theorem dX8_call_81 : decode cX8_call 81 = .ok (.dload 7, 2) := gz_d tdX8_call_t0_ok 47 rfl
theorem dX8_call_83 : decode cX8_call 83 = .ok (.invokevirtual 154, 3) := gz_d tdX8_call_t0_ok 48 rfl
theorem dX8_call_86 : decode cX8_call 86 = .ok (.goto 85, 3) := gz_d tdX8_call_t0_ok 49 rfl
theorem dX8_call_89 : decode cX8_call 89 = .ok (.aload_n 0, 1) := gz_d tdX8_call_t0_ok 50 rfl
theorem dX8_call_90 : decode cX8_call 90 = .ok (.iload_n 1, 1) := gz_d tdX8_call_t0_ok 51 rfl
theorem dX8_call_91 : decode cX8_call 91 = .ok (.iload_n 2, 1) := gz_d tdX8_call_t0_ok 52 rfl
theorem dX8_call_92 : decode cX8_call 92 = .ok (.iload 4, 2) := gz_d tdX8_call_t0_ok 53 rfl
theorem dX8_call_94 : decode cX8_call 94 = .ok (.iconst (-1), 1) := gz_d tdX8_call_t0_ok 54 rfl
theorem dX8_call_95 : decode cX8_call 95 = .ok (.invokevirtual 158, 3) := gz_d tdX8_call_t0_ok 55 rfl
theorem dX8_call_98 : decode cX8_call 98 = .ok (.ifCond .eq 73, 3) := gz_d tdX8_call_t0_ok 56 rfl
theorem dX8_call_101 : decode cX8_call 101 = .ok (.iconst 0, 1) := gz_d tdX8_call_t0_ok 57 rfl
theorem dX8_call_102 : decode cX8_call 102 = .ok (.istore 7, 2) := gz_d tdX8_call_t0_ok 58 rfl
theorem dX8_call_104 : decode cX8_call 104 = .ok (.iload 7, 2) := gz_d tdX8_call_t0_ok 59 rfl
def tdX8_call_t1 : List (Nat × Instr × Nat) := [(106, .aload_n 0, 1), (107, .getfield 23, 3), (110, .iload 6, 2), (112, .iaload, 1), (113, .if_icmp .ge 58, 3), (116, .aload_n 0, 1), (117, .iload_n 1, 1), (118, .iload 5, 2), (120, .iload_n 3, 1), (121, .iload 7, 2), (123, .aload_n 0, 1), (124, .getfield 45, 3), (127, .iload 4, 2), (129, .iaload, 1), (130, .invokevirtual 151, 3), (133, .ifCond .eq 32, 3), (136, .aload_n 0, 1), (137, .getfield 51, 3), (140, .iload 4, 2), (142, .aload_n 0, 1), (143, .getfield 51, 3), (146, .iload 4, 2), (148, .daload, 1), (149, .aload_n 0, 1), (150, .getfield 42, 3), (153, .iconst 4, 1), (154, .iload 4, 2), (156, .imul, 1), (157, .iconst 4, 1), (158, .iadd, 1), (159, .iload 7, 2), (161, .iadd, 1), (162, .daload, 1), (163, .dadd, 1), (164, .dastore, 1), (165, .iinc 7 1, 3), (168, .goto (-64), 3), (171, .return_, 1)]
theorem tdX8_call_t1_ok : gz_dec cX8_call tdX8_call_t1 = true := by decide +kernel
theorem dX8_call_106 : decode cX8_call 106 = .ok (.aload_n 0, 1) := gz_d tdX8_call_t1_ok 0 rfl
theorem dX8_call_107 : decode cX8_call 107 = .ok (.getfield 23, 3) := gz_d tdX8_call_t1_ok 1 rfl
theorem dX8_call_110 : decode cX8_call 110 = .ok (.iload 6, 2) := gz_d tdX8_call_t1_ok 2 rfl
theorem dX8_call_112 : decode cX8_call 112 = .ok (.iaload, 1) := gz_d tdX8_call_t1_ok 3 rfl
theorem dX8_call_113 : decode cX8_call 113 = .ok (.if_icmp .ge 58, 3) := gz_d tdX8_call_t1_ok 4 rfl
theorem dX8_call_116 : decode cX8_call 116 = .ok (.aload_n 0, 1) := gz_d tdX8_call_t1_ok 5 rfl
theorem dX8_call_117 : decode cX8_call 117 = .ok (.iload_n 1, 1) := gz_d tdX8_call_t1_ok 6 rfl
theorem dX8_call_118 : decode cX8_call 118 = .ok (.iload 5, 2) := gz_d tdX8_call_t1_ok 7 rfl
theorem dX8_call_120 : decode cX8_call 120 = .ok (.iload_n 3, 1) := gz_d tdX8_call_t1_ok 8 rfl
theorem dX8_call_121 : decode cX8_call 121 = .ok (.iload 7, 2) := gz_d tdX8_call_t1_ok 9 rfl
theorem dX8_call_123 : decode cX8_call 123 = .ok (.aload_n 0, 1) := gz_d tdX8_call_t1_ok 10 rfl
theorem dX8_call_124 : decode cX8_call 124 = .ok (.getfield 45, 3) := gz_d tdX8_call_t1_ok 11 rfl
theorem dX8_call_127 : decode cX8_call 127 = .ok (.iload 4, 2) := gz_d tdX8_call_t1_ok 12 rfl
theorem dX8_call_129 : decode cX8_call 129 = .ok (.iaload, 1) := gz_d tdX8_call_t1_ok 13 rfl
theorem dX8_call_130 : decode cX8_call 130 = .ok (.invokevirtual 151, 3) := gz_d tdX8_call_t1_ok 14 rfl
theorem dX8_call_133 : decode cX8_call 133 = .ok (.ifCond .eq 32, 3) := gz_d tdX8_call_t1_ok 15 rfl
theorem dX8_call_136 : decode cX8_call 136 = .ok (.aload_n 0, 1) := gz_d tdX8_call_t1_ok 16 rfl
theorem dX8_call_137 : decode cX8_call 137 = .ok (.getfield 51, 3) := gz_d tdX8_call_t1_ok 17 rfl
theorem dX8_call_140 : decode cX8_call 140 = .ok (.iload 4, 2) := gz_d tdX8_call_t1_ok 18 rfl
theorem dX8_call_142 : decode cX8_call 142 = .ok (.aload_n 0, 1) := gz_d tdX8_call_t1_ok 19 rfl
theorem dX8_call_143 : decode cX8_call 143 = .ok (.getfield 51, 3) := gz_d tdX8_call_t1_ok 20 rfl
theorem dX8_call_146 : decode cX8_call 146 = .ok (.iload 4, 2) := gz_d tdX8_call_t1_ok 21 rfl
theorem dX8_call_148 : decode cX8_call 148 = .ok (.daload, 1) := gz_d tdX8_call_t1_ok 22 rfl
theorem dX8_call_149 : decode cX8_call 149 = .ok (.aload_n 0, 1) := gz_d tdX8_call_t1_ok 23 rfl
theorem dX8_call_150 : decode cX8_call 150 = .ok (.getfield 42, 3) := gz_d tdX8_call_t1_ok 24 rfl
theorem dX8_call_153 : decode cX8_call 153 = .ok (.iconst 4, 1) := gz_d tdX8_call_t1_ok 25 rfl
theorem dX8_call_154 : decode cX8_call 154 = .ok (.iload 4, 2) := gz_d tdX8_call_t1_ok 26 rfl
theorem dX8_call_156 : decode cX8_call 156 = .ok (.imul, 1) := gz_d tdX8_call_t1_ok 27 rfl
theorem dX8_call_157 : decode cX8_call 157 = .ok (.iconst 4, 1) := gz_d tdX8_call_t1_ok 28 rfl
theorem dX8_call_158 : decode cX8_call 158 = .ok (.iadd, 1) := gz_d tdX8_call_t1_ok 29 rfl
theorem dX8_call_159 : decode cX8_call 159 = .ok (.iload 7, 2) := gz_d tdX8_call_t1_ok 30 rfl
theorem dX8_call_161 : decode cX8_call 161 = .ok (.iadd, 1) := gz_d tdX8_call_t1_ok 31 rfl
theorem dX8_call_162 : decode cX8_call 162 = .ok (.daload, 1) := gz_d tdX8_call_t1_ok 32 rfl
theorem dX8_call_163 : decode cX8_call 163 = .ok (.dadd, 1) := gz_d tdX8_call_t1_ok 33 rfl
theorem dX8_call_164 : decode cX8_call 164 = .ok (.dastore, 1) := gz_d tdX8_call_t1_ok 34 rfl
theorem dX8_call_165 : decode cX8_call 165 = .ok (.iinc 7 1, 3) := gz_d tdX8_call_t1_ok 35 rfl
theorem dX8_call_168 : decode cX8_call 168 = .ok (.goto (-64), 3) := gz_d tdX8_call_t1_ok 36 rfl
theorem dX8_call_171 : decode cX8_call 171 = .ok (.return_, 1) := gz_d tdX8_call_t1_ok 37 rfl
def tdX8_answerOf_t0 : List (Nat × Instr × Nat) := [(0, .iload 4, 2), (2, .istore 5, 2), (4, .iconst 0, 1), (5, .istore 6, 2), (7, .iload 6, 2), (9, .ifCond .ne 274, 3), (12, .aload_n 0, 1), (13, .getfield 48, 3), (16, .iload 5, 2), (18, .iaload, 1), (19, .istore 7, 2), (21, .iload 5, 2), (23, .iconst 2, 1), (24, .irem, 1), (25, .istore 8, 2), (27, .iload 7, 2), (29, .aload_n 0, 1), (30, .invokevirtual 89, 3), (33, .if_icmp .ne 78, 3), (36, .iload 5, 2), (38, .iload 4, 2), (40, .if_icmp .ne 9, 3), (43, .iconst 1, 1), (44, .istore 6, 2), (46, .goto 234, 3), (49, .aload_n 0, 1), (50, .getfield 51, 3), (53, .iload 5, 2), (55, .daload, 1), (56, .dstore 9, 2), (58, .iinc 5 (-1), 3), (61, .iload 5, 2), (63, .iconst 2, 1), (64, .irem, 1), (65, .iload_n 1, 1), (66, .if_icmp .ne 14, 3), (69, .aload_n 0, 1), (70, .iload 5, 2), (72, .dload 9, 2), (74, .invokevirtual 154, 3), (77, .goto 20, 3), (80, .aload_n 0, 1), (81, .getfield 51, 3), (84, .iload 5, 2), (86, .aload_n 0, 1), (87, .getfield 51, 3), (90, .iload 5, 2), (92, .daload, 1), (93, .dload 9, 2), (95, .dadd, 1), (96, .dastore, 1), (97, .aload_n 0, 1), (98, .getfield 48, 3), (101, .iload 5, 2), (103, .dup2, 1), (104, .iaload, 1), (105, .iconst 1, 1), (106, .iadd, 1), (107, .iastore, 1), (108, .goto 172, 3)]
theorem tdX8_answerOf_t0_ok : gz_dec cX8_answerOf tdX8_answerOf_t0 = true := by decide +kernel
theorem dX8_answerOf_0 : decode cX8_answerOf 0 = .ok (.iload 4, 2) := gz_d tdX8_answerOf_t0_ok 0 rfl
theorem dX8_answerOf_2 : decode cX8_answerOf 2 = .ok (.istore 5, 2) := gz_d tdX8_answerOf_t0_ok 1 rfl
theorem dX8_answerOf_4 : decode cX8_answerOf 4 = .ok (.iconst 0, 1) := gz_d tdX8_answerOf_t0_ok 2 rfl
theorem dX8_answerOf_5 : decode cX8_answerOf 5 = .ok (.istore 6, 2) := gz_d tdX8_answerOf_t0_ok 3 rfl
theorem dX8_answerOf_7 : decode cX8_answerOf 7 = .ok (.iload 6, 2) := gz_d tdX8_answerOf_t0_ok 4 rfl
theorem dX8_answerOf_9 : decode cX8_answerOf 9 = .ok (.ifCond .ne 274, 3) := gz_d tdX8_answerOf_t0_ok 5 rfl
theorem dX8_answerOf_12 : decode cX8_answerOf 12 = .ok (.aload_n 0, 1) := gz_d tdX8_answerOf_t0_ok 6 rfl
theorem dX8_answerOf_13 : decode cX8_answerOf 13 = .ok (.getfield 48, 3) := gz_d tdX8_answerOf_t0_ok 7 rfl
theorem dX8_answerOf_16 : decode cX8_answerOf 16 = .ok (.iload 5, 2) := gz_d tdX8_answerOf_t0_ok 8 rfl
theorem dX8_answerOf_18 : decode cX8_answerOf 18 = .ok (.iaload, 1) := gz_d tdX8_answerOf_t0_ok 9 rfl
theorem dX8_answerOf_19 : decode cX8_answerOf 19 = .ok (.istore 7, 2) := gz_d tdX8_answerOf_t0_ok 10 rfl
theorem dX8_answerOf_21 : decode cX8_answerOf 21 = .ok (.iload 5, 2) := gz_d tdX8_answerOf_t0_ok 11 rfl
theorem dX8_answerOf_23 : decode cX8_answerOf 23 = .ok (.iconst 2, 1) := gz_d tdX8_answerOf_t0_ok 12 rfl
theorem dX8_answerOf_24 : decode cX8_answerOf 24 = .ok (.irem, 1) := gz_d tdX8_answerOf_t0_ok 13 rfl
theorem dX8_answerOf_25 : decode cX8_answerOf 25 = .ok (.istore 8, 2) := gz_d tdX8_answerOf_t0_ok 14 rfl
theorem dX8_answerOf_27 : decode cX8_answerOf 27 = .ok (.iload 7, 2) := gz_d tdX8_answerOf_t0_ok 15 rfl
theorem dX8_answerOf_29 : decode cX8_answerOf 29 = .ok (.aload_n 0, 1) := gz_d tdX8_answerOf_t0_ok 16 rfl
theorem dX8_answerOf_30 : decode cX8_answerOf 30 = .ok (.invokevirtual 89, 3) := gz_d tdX8_answerOf_t0_ok 17 rfl
theorem dX8_answerOf_33 : decode cX8_answerOf 33 = .ok (.if_icmp .ne 78, 3) := gz_d tdX8_answerOf_t0_ok 18 rfl
theorem dX8_answerOf_36 : decode cX8_answerOf 36 = .ok (.iload 5, 2) := gz_d tdX8_answerOf_t0_ok 19 rfl
theorem dX8_answerOf_38 : decode cX8_answerOf 38 = .ok (.iload 4, 2) := gz_d tdX8_answerOf_t0_ok 20 rfl
theorem dX8_answerOf_40 : decode cX8_answerOf 40 = .ok (.if_icmp .ne 9, 3) := gz_d tdX8_answerOf_t0_ok 21 rfl
theorem dX8_answerOf_43 : decode cX8_answerOf 43 = .ok (.iconst 1, 1) := gz_d tdX8_answerOf_t0_ok 22 rfl
theorem dX8_answerOf_44 : decode cX8_answerOf 44 = .ok (.istore 6, 2) := gz_d tdX8_answerOf_t0_ok 23 rfl
theorem dX8_answerOf_46 : decode cX8_answerOf 46 = .ok (.goto 234, 3) := gz_d tdX8_answerOf_t0_ok 24 rfl
theorem dX8_answerOf_49 : decode cX8_answerOf 49 = .ok (.aload_n 0, 1) := gz_d tdX8_answerOf_t0_ok 25 rfl
theorem dX8_answerOf_50 : decode cX8_answerOf 50 = .ok (.getfield 51, 3) := gz_d tdX8_answerOf_t0_ok 26 rfl
theorem dX8_answerOf_53 : decode cX8_answerOf 53 = .ok (.iload 5, 2) := gz_d tdX8_answerOf_t0_ok 27 rfl
theorem dX8_answerOf_55 : decode cX8_answerOf 55 = .ok (.daload, 1) := gz_d tdX8_answerOf_t0_ok 28 rfl
theorem dX8_answerOf_56 : decode cX8_answerOf 56 = .ok (.dstore 9, 2) := gz_d tdX8_answerOf_t0_ok 29 rfl
theorem dX8_answerOf_58 : decode cX8_answerOf 58 = .ok (.iinc 5 (-1), 3) := gz_d tdX8_answerOf_t0_ok 30 rfl
theorem dX8_answerOf_61 : decode cX8_answerOf 61 = .ok (.iload 5, 2) := gz_d tdX8_answerOf_t0_ok 31 rfl
theorem dX8_answerOf_63 : decode cX8_answerOf 63 = .ok (.iconst 2, 1) := gz_d tdX8_answerOf_t0_ok 32 rfl
theorem dX8_answerOf_64 : decode cX8_answerOf 64 = .ok (.irem, 1) := gz_d tdX8_answerOf_t0_ok 33 rfl
theorem dX8_answerOf_65 : decode cX8_answerOf 65 = .ok (.iload_n 1, 1) := gz_d tdX8_answerOf_t0_ok 34 rfl
theorem dX8_answerOf_66 : decode cX8_answerOf 66 = .ok (.if_icmp .ne 14, 3) := gz_d tdX8_answerOf_t0_ok 35 rfl
theorem dX8_answerOf_69 : decode cX8_answerOf 69 = .ok (.aload_n 0, 1) := gz_d tdX8_answerOf_t0_ok 36 rfl
theorem dX8_answerOf_70 : decode cX8_answerOf 70 = .ok (.iload 5, 2) := gz_d tdX8_answerOf_t0_ok 37 rfl
theorem dX8_answerOf_72 : decode cX8_answerOf 72 = .ok (.dload 9, 2) := gz_d tdX8_answerOf_t0_ok 38 rfl
theorem dX8_answerOf_74 : decode cX8_answerOf 74 = .ok (.invokevirtual 154, 3) := gz_d tdX8_answerOf_t0_ok 39 rfl
theorem dX8_answerOf_77 : decode cX8_answerOf 77 = .ok (.goto 20, 3) := gz_d tdX8_answerOf_t0_ok 40 rfl
theorem dX8_answerOf_80 : decode cX8_answerOf 80 = .ok (.aload_n 0, 1) := gz_d tdX8_answerOf_t0_ok 41 rfl
theorem dX8_answerOf_81 : decode cX8_answerOf 81 = .ok (.getfield 51, 3) := gz_d tdX8_answerOf_t0_ok 42 rfl
theorem dX8_answerOf_84 : decode cX8_answerOf 84 = .ok (.iload 5, 2) := gz_d tdX8_answerOf_t0_ok 43 rfl
theorem dX8_answerOf_86 : decode cX8_answerOf 86 = .ok (.aload_n 0, 1) := gz_d tdX8_answerOf_t0_ok 44 rfl
theorem dX8_answerOf_87 : decode cX8_answerOf 87 = .ok (.getfield 51, 3) := gz_d tdX8_answerOf_t0_ok 45 rfl
theorem dX8_answerOf_90 : decode cX8_answerOf 90 = .ok (.iload 5, 2) := gz_d tdX8_answerOf_t0_ok 46 rfl
theorem dX8_answerOf_92 : decode cX8_answerOf 92 = .ok (.daload, 1) := gz_d tdX8_answerOf_t0_ok 47 rfl
theorem dX8_answerOf_93 : decode cX8_answerOf 93 = .ok (.dload 9, 2) := gz_d tdX8_answerOf_t0_ok 48 rfl
theorem dX8_answerOf_95 : decode cX8_answerOf 95 = .ok (.dadd, 1) := gz_d tdX8_answerOf_t0_ok 49 rfl
theorem dX8_answerOf_96 : decode cX8_answerOf 96 = .ok (.dastore, 1) := gz_d tdX8_answerOf_t0_ok 50 rfl
theorem dX8_answerOf_97 : decode cX8_answerOf 97 = .ok (.aload_n 0, 1) := gz_d tdX8_answerOf_t0_ok 51 rfl
theorem dX8_answerOf_98 : decode cX8_answerOf 98 = .ok (.getfield 48, 3) := gz_d tdX8_answerOf_t0_ok 52 rfl
theorem dX8_answerOf_101 : decode cX8_answerOf 101 = .ok (.iload 5, 2) := gz_d tdX8_answerOf_t0_ok 53 rfl
theorem dX8_answerOf_103 : decode cX8_answerOf 103 = .ok (.dup2, 1) := gz_d tdX8_answerOf_t0_ok 54 rfl
theorem dX8_answerOf_104 : decode cX8_answerOf 104 = .ok (.iaload, 1) := gz_d tdX8_answerOf_t0_ok 55 rfl
theorem dX8_answerOf_105 : decode cX8_answerOf 105 = .ok (.iconst 1, 1) := gz_d tdX8_answerOf_t0_ok 56 rfl
theorem dX8_answerOf_106 : decode cX8_answerOf 106 = .ok (.iadd, 1) := gz_d tdX8_answerOf_t0_ok 57 rfl
theorem dX8_answerOf_107 : decode cX8_answerOf 107 = .ok (.iastore, 1) := gz_d tdX8_answerOf_t0_ok 58 rfl
theorem dX8_answerOf_108 : decode cX8_answerOf 108 = .ok (.goto 172, 3) := gz_d tdX8_answerOf_t0_ok 59 rfl
def tdX8_answerOf_t1 : List (Nat × Instr × Nat) := [(111, .aload_n 0, 1), (112, .aload_n 0, 1), (113, .getfield 45, 3), (116, .iload 5, 2), (118, .iaload, 1), (119, .iload 7, 2), (121, .invokevirtual 120, 3), (124, .ifCond .ne 17, 3), (127, .aload_n 0, 1), (128, .getfield 48, 3), (131, .iload 5, 2), (133, .dup2, 1), (134, .iaload, 1), (135, .iconst 1, 1), (136, .iadd, 1), (137, .iastore, 1), (138, .goto 142, 3), (141, .iload 7, 2), (143, .iconst (-1), 1), (144, .if_icmp .ne 26, 3), (147, .aload_n 0, 1), (148, .iload_n 1, 1), (149, .iload_n 2, 1), (150, .iload_n 3, 1), (151, .iload 5, 2), (153, .invokevirtual 162, 3), (156, .aload_n 0, 1), (157, .getfield 48, 3), (160, .iload 5, 2), (162, .dup2, 1), (163, .iaload, 1), (164, .iconst 1, 1), (165, .iadd, 1), (166, .iastore, 1), (167, .goto 113, 3), (170, .iload 8, 2), (172, .iload_n 1, 1), (173, .if_icmp .ne 67, 3), (176, .iconst 0, 1), (177, .istore 9, 2), (179, .iload 9, 2), (181, .aload_n 0, 1), (182, .getfield 23, 3), (185, .iconst 1, 1), (186, .iload_n 1, 1), (187, .isub, 1), (188, .iaload, 1), (189, .if_icmp .ge 35, 3), (192, .aload_n 0, 1), (193, .getfield 42, 3), (196, .iconst 4, 1), (197, .iload 5, 2), (199, .imul, 1), (200, .iconst 4, 1), (201, .iadd, 1), (202, .iload 9, 2), (204, .iadd, 1), (205, .aload_n 0, 1), (206, .getfield 42, 3), (209, .iconst 4, 1)]
theorem tdX8_answerOf_t1_ok : gz_dec cX8_answerOf tdX8_answerOf_t1 = true := by decide +kernel
theorem dX8_answerOf_111 : decode cX8_answerOf 111 = .ok (.aload_n 0, 1) := gz_d tdX8_answerOf_t1_ok 0 rfl
theorem dX8_answerOf_112 : decode cX8_answerOf 112 = .ok (.aload_n 0, 1) := gz_d tdX8_answerOf_t1_ok 1 rfl
theorem dX8_answerOf_113 : decode cX8_answerOf 113 = .ok (.getfield 45, 3) := gz_d tdX8_answerOf_t1_ok 2 rfl
theorem dX8_answerOf_116 : decode cX8_answerOf 116 = .ok (.iload 5, 2) := gz_d tdX8_answerOf_t1_ok 3 rfl
theorem dX8_answerOf_118 : decode cX8_answerOf 118 = .ok (.iaload, 1) := gz_d tdX8_answerOf_t1_ok 4 rfl
theorem dX8_answerOf_119 : decode cX8_answerOf 119 = .ok (.iload 7, 2) := gz_d tdX8_answerOf_t1_ok 5 rfl
theorem dX8_answerOf_121 : decode cX8_answerOf 121 = .ok (.invokevirtual 120, 3) := gz_d tdX8_answerOf_t1_ok 6 rfl
theorem dX8_answerOf_124 : decode cX8_answerOf 124 = .ok (.ifCond .ne 17, 3) := gz_d tdX8_answerOf_t1_ok 7 rfl
theorem dX8_answerOf_127 : decode cX8_answerOf 127 = .ok (.aload_n 0, 1) := gz_d tdX8_answerOf_t1_ok 8 rfl
theorem dX8_answerOf_128 : decode cX8_answerOf 128 = .ok (.getfield 48, 3) := gz_d tdX8_answerOf_t1_ok 9 rfl
theorem dX8_answerOf_131 : decode cX8_answerOf 131 = .ok (.iload 5, 2) := gz_d tdX8_answerOf_t1_ok 10 rfl
theorem dX8_answerOf_133 : decode cX8_answerOf 133 = .ok (.dup2, 1) := gz_d tdX8_answerOf_t1_ok 11 rfl
theorem dX8_answerOf_134 : decode cX8_answerOf 134 = .ok (.iaload, 1) := gz_d tdX8_answerOf_t1_ok 12 rfl
theorem dX8_answerOf_135 : decode cX8_answerOf 135 = .ok (.iconst 1, 1) := gz_d tdX8_answerOf_t1_ok 13 rfl
theorem dX8_answerOf_136 : decode cX8_answerOf 136 = .ok (.iadd, 1) := gz_d tdX8_answerOf_t1_ok 14 rfl
theorem dX8_answerOf_137 : decode cX8_answerOf 137 = .ok (.iastore, 1) := gz_d tdX8_answerOf_t1_ok 15 rfl
theorem dX8_answerOf_138 : decode cX8_answerOf 138 = .ok (.goto 142, 3) := gz_d tdX8_answerOf_t1_ok 16 rfl
theorem dX8_answerOf_141 : decode cX8_answerOf 141 = .ok (.iload 7, 2) := gz_d tdX8_answerOf_t1_ok 17 rfl
theorem dX8_answerOf_143 : decode cX8_answerOf 143 = .ok (.iconst (-1), 1) := gz_d tdX8_answerOf_t1_ok 18 rfl
theorem dX8_answerOf_144 : decode cX8_answerOf 144 = .ok (.if_icmp .ne 26, 3) := gz_d tdX8_answerOf_t1_ok 19 rfl
theorem dX8_answerOf_147 : decode cX8_answerOf 147 = .ok (.aload_n 0, 1) := gz_d tdX8_answerOf_t1_ok 20 rfl
theorem dX8_answerOf_148 : decode cX8_answerOf 148 = .ok (.iload_n 1, 1) := gz_d tdX8_answerOf_t1_ok 21 rfl
theorem dX8_answerOf_149 : decode cX8_answerOf 149 = .ok (.iload_n 2, 1) := gz_d tdX8_answerOf_t1_ok 22 rfl
theorem dX8_answerOf_150 : decode cX8_answerOf 150 = .ok (.iload_n 3, 1) := gz_d tdX8_answerOf_t1_ok 23 rfl
theorem dX8_answerOf_151 : decode cX8_answerOf 151 = .ok (.iload 5, 2) := gz_d tdX8_answerOf_t1_ok 24 rfl
theorem dX8_answerOf_153 : decode cX8_answerOf 153 = .ok (.invokevirtual 162, 3) := gz_d tdX8_answerOf_t1_ok 25 rfl
theorem dX8_answerOf_156 : decode cX8_answerOf 156 = .ok (.aload_n 0, 1) := gz_d tdX8_answerOf_t1_ok 26 rfl
theorem dX8_answerOf_157 : decode cX8_answerOf 157 = .ok (.getfield 48, 3) := gz_d tdX8_answerOf_t1_ok 27 rfl
theorem dX8_answerOf_160 : decode cX8_answerOf 160 = .ok (.iload 5, 2) := gz_d tdX8_answerOf_t1_ok 28 rfl
theorem dX8_answerOf_162 : decode cX8_answerOf 162 = .ok (.dup2, 1) := gz_d tdX8_answerOf_t1_ok 29 rfl
theorem dX8_answerOf_163 : decode cX8_answerOf 163 = .ok (.iaload, 1) := gz_d tdX8_answerOf_t1_ok 30 rfl
theorem dX8_answerOf_164 : decode cX8_answerOf 164 = .ok (.iconst 1, 1) := gz_d tdX8_answerOf_t1_ok 31 rfl
theorem dX8_answerOf_165 : decode cX8_answerOf 165 = .ok (.iadd, 1) := gz_d tdX8_answerOf_t1_ok 32 rfl
theorem dX8_answerOf_166 : decode cX8_answerOf 166 = .ok (.iastore, 1) := gz_d tdX8_answerOf_t1_ok 33 rfl
theorem dX8_answerOf_167 : decode cX8_answerOf 167 = .ok (.goto 113, 3) := gz_d tdX8_answerOf_t1_ok 34 rfl
theorem dX8_answerOf_170 : decode cX8_answerOf 170 = .ok (.iload 8, 2) := gz_d tdX8_answerOf_t1_ok 35 rfl
theorem dX8_answerOf_172 : decode cX8_answerOf 172 = .ok (.iload_n 1, 1) := gz_d tdX8_answerOf_t1_ok 36 rfl
theorem dX8_answerOf_173 : decode cX8_answerOf 173 = .ok (.if_icmp .ne 67, 3) := gz_d tdX8_answerOf_t1_ok 37 rfl
theorem dX8_answerOf_176 : decode cX8_answerOf 176 = .ok (.iconst 0, 1) := gz_d tdX8_answerOf_t1_ok 38 rfl
theorem dX8_answerOf_177 : decode cX8_answerOf 177 = .ok (.istore 9, 2) := gz_d tdX8_answerOf_t1_ok 39 rfl
theorem dX8_answerOf_179 : decode cX8_answerOf 179 = .ok (.iload 9, 2) := gz_d tdX8_answerOf_t1_ok 40 rfl
theorem dX8_answerOf_181 : decode cX8_answerOf 181 = .ok (.aload_n 0, 1) := gz_d tdX8_answerOf_t1_ok 41 rfl
theorem dX8_answerOf_182 : decode cX8_answerOf 182 = .ok (.getfield 23, 3) := gz_d tdX8_answerOf_t1_ok 42 rfl
theorem dX8_answerOf_185 : decode cX8_answerOf 185 = .ok (.iconst 1, 1) := gz_d tdX8_answerOf_t1_ok 43 rfl
theorem dX8_answerOf_186 : decode cX8_answerOf 186 = .ok (.iload_n 1, 1) := gz_d tdX8_answerOf_t1_ok 44 rfl
theorem dX8_answerOf_187 : decode cX8_answerOf 187 = .ok (.isub, 1) := gz_d tdX8_answerOf_t1_ok 45 rfl
theorem dX8_answerOf_188 : decode cX8_answerOf 188 = .ok (.iaload, 1) := gz_d tdX8_answerOf_t1_ok 46 rfl
theorem dX8_answerOf_189 : decode cX8_answerOf 189 = .ok (.if_icmp .ge 35, 3) := gz_d tdX8_answerOf_t1_ok 47 rfl
theorem dX8_answerOf_192 : decode cX8_answerOf 192 = .ok (.aload_n 0, 1) := gz_d tdX8_answerOf_t1_ok 48 rfl
theorem dX8_answerOf_193 : decode cX8_answerOf 193 = .ok (.getfield 42, 3) := gz_d tdX8_answerOf_t1_ok 49 rfl
theorem dX8_answerOf_196 : decode cX8_answerOf 196 = .ok (.iconst 4, 1) := gz_d tdX8_answerOf_t1_ok 50 rfl
theorem dX8_answerOf_197 : decode cX8_answerOf 197 = .ok (.iload 5, 2) := gz_d tdX8_answerOf_t1_ok 51 rfl
theorem dX8_answerOf_199 : decode cX8_answerOf 199 = .ok (.imul, 1) := gz_d tdX8_answerOf_t1_ok 52 rfl
theorem dX8_answerOf_200 : decode cX8_answerOf 200 = .ok (.iconst 4, 1) := gz_d tdX8_answerOf_t1_ok 53 rfl
theorem dX8_answerOf_201 : decode cX8_answerOf 201 = .ok (.iadd, 1) := gz_d tdX8_answerOf_t1_ok 54 rfl
theorem dX8_answerOf_202 : decode cX8_answerOf 202 = .ok (.iload 9, 2) := gz_d tdX8_answerOf_t1_ok 55 rfl
theorem dX8_answerOf_204 : decode cX8_answerOf 204 = .ok (.iadd, 1) := gz_d tdX8_answerOf_t1_ok 56 rfl
theorem dX8_answerOf_205 : decode cX8_answerOf 205 = .ok (.aload_n 0, 1) := gz_d tdX8_answerOf_t1_ok 57 rfl
theorem dX8_answerOf_206 : decode cX8_answerOf 206 = .ok (.getfield 42, 3) := gz_d tdX8_answerOf_t1_ok 58 rfl
theorem dX8_answerOf_209 : decode cX8_answerOf 209 = .ok (.iconst 4, 1) := gz_d tdX8_answerOf_t1_ok 59 rfl
def tdX8_answerOf_t2 : List (Nat × Instr × Nat) := [(210, .iload 5, 2), (212, .imul, 1), (213, .iload 9, 2), (215, .iadd, 1), (216, .daload, 1), (217, .dastore, 1), (218, .iinc 9 1, 3), (221, .goto (-42), 3), (224, .aload_n 0, 1), (225, .iload 5, 2), (227, .iconst 1, 1), (228, .iadd, 1), (229, .iload 7, 2), (231, .invokevirtual 166, 3), (234, .iinc 5 1, 3), (237, .goto 43, 3), (240, .aload_n 0, 1), (241, .iload_n 1, 1), (242, .iload_n 2, 1), (243, .iload 5, 2), (245, .iload 7, 2), (247, .invokevirtual 158, 3), (250, .ifCond .eq 19, 3), (253, .aload_n 0, 1), (254, .iload 5, 2), (256, .iconst 1, 1), (257, .iadd, 1), (258, .iload 7, 2), (260, .invokevirtual 166, 3), (263, .iinc 5 1, 3), (266, .goto 14, 3), (269, .aload_n 0, 1), (270, .getfield 48, 3), (273, .iload 5, 2), (275, .dup2, 1), (276, .iaload, 1), (277, .iconst 1, 1), (278, .iadd, 1), (279, .iastore, 1), (280, .goto (-273), 3), (283, .aload_n 0, 1), (284, .getfield 51, 3), (287, .iload 4, 2), (289, .daload, 1), (290, .dreturn, 1)]
theorem tdX8_answerOf_t2_ok : gz_dec cX8_answerOf tdX8_answerOf_t2 = true := by decide +kernel
theorem dX8_answerOf_210 : decode cX8_answerOf 210 = .ok (.iload 5, 2) := gz_d tdX8_answerOf_t2_ok 0 rfl
theorem dX8_answerOf_212 : decode cX8_answerOf 212 = .ok (.imul, 1) := gz_d tdX8_answerOf_t2_ok 1 rfl
theorem dX8_answerOf_213 : decode cX8_answerOf 213 = .ok (.iload 9, 2) := gz_d tdX8_answerOf_t2_ok 2 rfl
theorem dX8_answerOf_215 : decode cX8_answerOf 215 = .ok (.iadd, 1) := gz_d tdX8_answerOf_t2_ok 3 rfl
theorem dX8_answerOf_216 : decode cX8_answerOf 216 = .ok (.daload, 1) := gz_d tdX8_answerOf_t2_ok 4 rfl
theorem dX8_answerOf_217 : decode cX8_answerOf 217 = .ok (.dastore, 1) := gz_d tdX8_answerOf_t2_ok 5 rfl
theorem dX8_answerOf_218 : decode cX8_answerOf 218 = .ok (.iinc 9 1, 3) := gz_d tdX8_answerOf_t2_ok 6 rfl
theorem dX8_answerOf_221 : decode cX8_answerOf 221 = .ok (.goto (-42), 3) := gz_d tdX8_answerOf_t2_ok 7 rfl
theorem dX8_answerOf_224 : decode cX8_answerOf 224 = .ok (.aload_n 0, 1) := gz_d tdX8_answerOf_t2_ok 8 rfl
theorem dX8_answerOf_225 : decode cX8_answerOf 225 = .ok (.iload 5, 2) := gz_d tdX8_answerOf_t2_ok 9 rfl
theorem dX8_answerOf_227 : decode cX8_answerOf 227 = .ok (.iconst 1, 1) := gz_d tdX8_answerOf_t2_ok 10 rfl
theorem dX8_answerOf_228 : decode cX8_answerOf 228 = .ok (.iadd, 1) := gz_d tdX8_answerOf_t2_ok 11 rfl
theorem dX8_answerOf_229 : decode cX8_answerOf 229 = .ok (.iload 7, 2) := gz_d tdX8_answerOf_t2_ok 12 rfl
theorem dX8_answerOf_231 : decode cX8_answerOf 231 = .ok (.invokevirtual 166, 3) := gz_d tdX8_answerOf_t2_ok 13 rfl
theorem dX8_answerOf_234 : decode cX8_answerOf 234 = .ok (.iinc 5 1, 3) := gz_d tdX8_answerOf_t2_ok 14 rfl
theorem dX8_answerOf_237 : decode cX8_answerOf 237 = .ok (.goto 43, 3) := gz_d tdX8_answerOf_t2_ok 15 rfl
theorem dX8_answerOf_240 : decode cX8_answerOf 240 = .ok (.aload_n 0, 1) := gz_d tdX8_answerOf_t2_ok 16 rfl
theorem dX8_answerOf_241 : decode cX8_answerOf 241 = .ok (.iload_n 1, 1) := gz_d tdX8_answerOf_t2_ok 17 rfl
theorem dX8_answerOf_242 : decode cX8_answerOf 242 = .ok (.iload_n 2, 1) := gz_d tdX8_answerOf_t2_ok 18 rfl
theorem dX8_answerOf_243 : decode cX8_answerOf 243 = .ok (.iload 5, 2) := gz_d tdX8_answerOf_t2_ok 19 rfl
theorem dX8_answerOf_245 : decode cX8_answerOf 245 = .ok (.iload 7, 2) := gz_d tdX8_answerOf_t2_ok 20 rfl
theorem dX8_answerOf_247 : decode cX8_answerOf 247 = .ok (.invokevirtual 158, 3) := gz_d tdX8_answerOf_t2_ok 21 rfl
theorem dX8_answerOf_250 : decode cX8_answerOf 250 = .ok (.ifCond .eq 19, 3) := gz_d tdX8_answerOf_t2_ok 22 rfl
theorem dX8_answerOf_253 : decode cX8_answerOf 253 = .ok (.aload_n 0, 1) := gz_d tdX8_answerOf_t2_ok 23 rfl
theorem dX8_answerOf_254 : decode cX8_answerOf 254 = .ok (.iload 5, 2) := gz_d tdX8_answerOf_t2_ok 24 rfl
theorem dX8_answerOf_256 : decode cX8_answerOf 256 = .ok (.iconst 1, 1) := gz_d tdX8_answerOf_t2_ok 25 rfl
theorem dX8_answerOf_257 : decode cX8_answerOf 257 = .ok (.iadd, 1) := gz_d tdX8_answerOf_t2_ok 26 rfl
theorem dX8_answerOf_258 : decode cX8_answerOf 258 = .ok (.iload 7, 2) := gz_d tdX8_answerOf_t2_ok 27 rfl
theorem dX8_answerOf_260 : decode cX8_answerOf 260 = .ok (.invokevirtual 166, 3) := gz_d tdX8_answerOf_t2_ok 28 rfl
theorem dX8_answerOf_263 : decode cX8_answerOf 263 = .ok (.iinc 5 1, 3) := gz_d tdX8_answerOf_t2_ok 29 rfl
theorem dX8_answerOf_266 : decode cX8_answerOf 266 = .ok (.goto 14, 3) := gz_d tdX8_answerOf_t2_ok 30 rfl
theorem dX8_answerOf_269 : decode cX8_answerOf 269 = .ok (.aload_n 0, 1) := gz_d tdX8_answerOf_t2_ok 31 rfl
theorem dX8_answerOf_270 : decode cX8_answerOf 270 = .ok (.getfield 48, 3) := gz_d tdX8_answerOf_t2_ok 32 rfl
theorem dX8_answerOf_273 : decode cX8_answerOf 273 = .ok (.iload 5, 2) := gz_d tdX8_answerOf_t2_ok 33 rfl
theorem dX8_answerOf_275 : decode cX8_answerOf 275 = .ok (.dup2, 1) := gz_d tdX8_answerOf_t2_ok 34 rfl
theorem dX8_answerOf_276 : decode cX8_answerOf 276 = .ok (.iaload, 1) := gz_d tdX8_answerOf_t2_ok 35 rfl
theorem dX8_answerOf_277 : decode cX8_answerOf 277 = .ok (.iconst 1, 1) := gz_d tdX8_answerOf_t2_ok 36 rfl
theorem dX8_answerOf_278 : decode cX8_answerOf 278 = .ok (.iadd, 1) := gz_d tdX8_answerOf_t2_ok 37 rfl
theorem dX8_answerOf_279 : decode cX8_answerOf 279 = .ok (.iastore, 1) := gz_d tdX8_answerOf_t2_ok 38 rfl
theorem dX8_answerOf_280 : decode cX8_answerOf 280 = .ok (.goto (-273), 3) := gz_d tdX8_answerOf_t2_ok 39 rfl
theorem dX8_answerOf_283 : decode cX8_answerOf 283 = .ok (.aload_n 0, 1) := gz_d tdX8_answerOf_t2_ok 40 rfl
theorem dX8_answerOf_284 : decode cX8_answerOf 284 = .ok (.getfield 51, 3) := gz_d tdX8_answerOf_t2_ok 41 rfl
theorem dX8_answerOf_287 : decode cX8_answerOf 287 = .ok (.iload 4, 2) := gz_d tdX8_answerOf_t2_ok 42 rfl
theorem dX8_answerOf_289 : decode cX8_answerOf 289 = .ok (.daload, 1) := gz_d tdX8_answerOf_t2_ok 43 rfl
theorem dX8_answerOf_290 : decode cX8_answerOf 290 = .ok (.dreturn, 1) := gz_d tdX8_answerOf_t2_ok 44 rfl
def tdX8_begin_t0 : List (Nat × Instr × Nat) := [(0, .aload_n 0, 1), (1, .iconst 0, 1), (2, .iconst (-1), 1), (3, .invokevirtual 166, 3), (6, .iconst 0, 1), (7, .istore_n 2, 1), (8, .iload_n 2, 1), (9, .aload_n 0, 1), (10, .getfield 23, 3), (13, .iconst 1, 1), (14, .iload_n 1, 1), (15, .isub, 1), (16, .iaload, 1), (17, .if_icmp .ge 28, 3), (20, .aload_n 0, 1), (21, .getfield 42, 3), (24, .iload_n 2, 1), (25, .aload_n 0, 1), (26, .getfield 26, 3), (29, .iconst 4, 1), (30, .iconst 1, 1), (31, .iload_n 1, 1), (32, .isub, 1), (33, .imul, 1), (34, .iload_n 2, 1), (35, .iadd, 1), (36, .iaload, 1), (37, .i2d, 1), (38, .dastore, 1), (39, .iinc 2 1, 3), (42, .goto (-34), 3), (45, .return_, 1)]
theorem tdX8_begin_t0_ok : gz_dec cX8_begin tdX8_begin_t0 = true := by decide +kernel
theorem dX8_begin_0 : decode cX8_begin 0 = .ok (.aload_n 0, 1) := gz_d tdX8_begin_t0_ok 0 rfl
theorem dX8_begin_1 : decode cX8_begin 1 = .ok (.iconst 0, 1) := gz_d tdX8_begin_t0_ok 1 rfl
theorem dX8_begin_2 : decode cX8_begin 2 = .ok (.iconst (-1), 1) := gz_d tdX8_begin_t0_ok 2 rfl
theorem dX8_begin_3 : decode cX8_begin 3 = .ok (.invokevirtual 166, 3) := gz_d tdX8_begin_t0_ok 3 rfl
theorem dX8_begin_6 : decode cX8_begin 6 = .ok (.iconst 0, 1) := gz_d tdX8_begin_t0_ok 4 rfl
theorem dX8_begin_7 : decode cX8_begin 7 = .ok (.istore_n 2, 1) := gz_d tdX8_begin_t0_ok 5 rfl
theorem dX8_begin_8 : decode cX8_begin 8 = .ok (.iload_n 2, 1) := gz_d tdX8_begin_t0_ok 6 rfl
theorem dX8_begin_9 : decode cX8_begin 9 = .ok (.aload_n 0, 1) := gz_d tdX8_begin_t0_ok 7 rfl
theorem dX8_begin_10 : decode cX8_begin 10 = .ok (.getfield 23, 3) := gz_d tdX8_begin_t0_ok 8 rfl
theorem dX8_begin_13 : decode cX8_begin 13 = .ok (.iconst 1, 1) := gz_d tdX8_begin_t0_ok 9 rfl
theorem dX8_begin_14 : decode cX8_begin 14 = .ok (.iload_n 1, 1) := gz_d tdX8_begin_t0_ok 10 rfl
theorem dX8_begin_15 : decode cX8_begin 15 = .ok (.isub, 1) := gz_d tdX8_begin_t0_ok 11 rfl
theorem dX8_begin_16 : decode cX8_begin 16 = .ok (.iaload, 1) := gz_d tdX8_begin_t0_ok 12 rfl
theorem dX8_begin_17 : decode cX8_begin 17 = .ok (.if_icmp .ge 28, 3) := gz_d tdX8_begin_t0_ok 13 rfl
theorem dX8_begin_20 : decode cX8_begin 20 = .ok (.aload_n 0, 1) := gz_d tdX8_begin_t0_ok 14 rfl
theorem dX8_begin_21 : decode cX8_begin 21 = .ok (.getfield 42, 3) := gz_d tdX8_begin_t0_ok 15 rfl
theorem dX8_begin_24 : decode cX8_begin 24 = .ok (.iload_n 2, 1) := gz_d tdX8_begin_t0_ok 16 rfl
theorem dX8_begin_25 : decode cX8_begin 25 = .ok (.aload_n 0, 1) := gz_d tdX8_begin_t0_ok 17 rfl
theorem dX8_begin_26 : decode cX8_begin 26 = .ok (.getfield 26, 3) := gz_d tdX8_begin_t0_ok 18 rfl
theorem dX8_begin_29 : decode cX8_begin 29 = .ok (.iconst 4, 1) := gz_d tdX8_begin_t0_ok 19 rfl
theorem dX8_begin_30 : decode cX8_begin 30 = .ok (.iconst 1, 1) := gz_d tdX8_begin_t0_ok 20 rfl
theorem dX8_begin_31 : decode cX8_begin 31 = .ok (.iload_n 1, 1) := gz_d tdX8_begin_t0_ok 21 rfl
theorem dX8_begin_32 : decode cX8_begin 32 = .ok (.isub, 1) := gz_d tdX8_begin_t0_ok 22 rfl
theorem dX8_begin_33 : decode cX8_begin 33 = .ok (.imul, 1) := gz_d tdX8_begin_t0_ok 23 rfl
theorem dX8_begin_34 : decode cX8_begin 34 = .ok (.iload_n 2, 1) := gz_d tdX8_begin_t0_ok 24 rfl
theorem dX8_begin_35 : decode cX8_begin 35 = .ok (.iadd, 1) := gz_d tdX8_begin_t0_ok 25 rfl
theorem dX8_begin_36 : decode cX8_begin 36 = .ok (.iaload, 1) := gz_d tdX8_begin_t0_ok 26 rfl
theorem dX8_begin_37 : decode cX8_begin 37 = .ok (.i2d, 1) := gz_d tdX8_begin_t0_ok 27 rfl
theorem dX8_begin_38 : decode cX8_begin 38 = .ok (.dastore, 1) := gz_d tdX8_begin_t0_ok 28 rfl
theorem dX8_begin_39 : decode cX8_begin 39 = .ok (.iinc 2 1, 3) := gz_d tdX8_begin_t0_ok 29 rfl
theorem dX8_begin_42 : decode cX8_begin 42 = .ok (.goto (-34), 3) := gz_d tdX8_begin_t0_ok 30 rfl
theorem dX8_begin_45 : decode cX8_begin 45 = .ok (.return_, 1) := gz_d tdX8_begin_t0_ok 31 rfl
def tdX8_answer_t0 : List (Nat × Instr × Nat) := [(0, .iload_n 1, 1), (1, .invokestatic 93, 3), (4, .ifCond .eq 10, 3), (7, .iload_n 2, 1), (8, .invokestatic 117, 3), (11, .ifCond .ne 7, 3), (14, .ldc2_w 139, 3), (17, .lreturn, 1), (18, .dconst 0, 1), (19, .dstore_n 3, 1), (20, .iconst 0, 1), (21, .istore 5, 2), (23, .iload 5, 2), (25, .aload_n 0, 1), (26, .getfield 23, 3), (29, .iload_n 1, 1), (30, .iaload, 1), (31, .if_icmp .ge 39, 3), (34, .aload_n 0, 1), (35, .iload_n 1, 1), (36, .invokevirtual 170, 3), (39, .dload_n 3, 1), (40, .aload_n 0, 1), (41, .getfield 26, 3), (44, .iconst 4, 1), (45, .iload_n 1, 1), (46, .imul, 1), (47, .iload 5, 2), (49, .iadd, 1), (50, .iaload, 1), (51, .i2d, 1), (52, .aload_n 0, 1), (53, .iload_n 1, 1), (54, .iload_n 2, 1), (55, .iload 5, 2), (57, .iconst 0, 1), (58, .invokevirtual 173, 3), (61, .dmul, 1), (62, .dadd, 1), (63, .dstore_n 3, 1), (64, .iinc 5 1, 3), (67, .goto (-44), 3), (70, .dload_n 3, 1), (71, .aload_n 0, 1), (72, .aload_n 0, 1), (73, .getfield 7, 3), (76, .aload_n 0, 1), (77, .getfield 13, 3), (80, .iadd, 1), (81, .invokevirtual 114, 3), (84, .i2d, 1), (85, .ddiv, 1), (86, .invokestatic 145, 3), (89, .lreturn, 1)]
theorem tdX8_answer_t0_ok : gz_dec cX8_answer tdX8_answer_t0 = true := by decide +kernel
theorem dX8_answer_0 : decode cX8_answer 0 = .ok (.iload_n 1, 1) := gz_d tdX8_answer_t0_ok 0 rfl
theorem dX8_answer_1 : decode cX8_answer 1 = .ok (.invokestatic 93, 3) := gz_d tdX8_answer_t0_ok 1 rfl
theorem dX8_answer_4 : decode cX8_answer 4 = .ok (.ifCond .eq 10, 3) := gz_d tdX8_answer_t0_ok 2 rfl
theorem dX8_answer_7 : decode cX8_answer 7 = .ok (.iload_n 2, 1) := gz_d tdX8_answer_t0_ok 3 rfl
theorem dX8_answer_8 : decode cX8_answer 8 = .ok (.invokestatic 117, 3) := gz_d tdX8_answer_t0_ok 4 rfl
theorem dX8_answer_11 : decode cX8_answer 11 = .ok (.ifCond .ne 7, 3) := gz_d tdX8_answer_t0_ok 5 rfl
theorem dX8_answer_14 : decode cX8_answer 14 = .ok (.ldc2_w 139, 3) := gz_d tdX8_answer_t0_ok 6 rfl
theorem dX8_answer_17 : decode cX8_answer 17 = .ok (.lreturn, 1) := gz_d tdX8_answer_t0_ok 7 rfl
theorem dX8_answer_18 : decode cX8_answer 18 = .ok (.dconst 0, 1) := gz_d tdX8_answer_t0_ok 8 rfl
theorem dX8_answer_19 : decode cX8_answer 19 = .ok (.dstore_n 3, 1) := gz_d tdX8_answer_t0_ok 9 rfl
theorem dX8_answer_20 : decode cX8_answer 20 = .ok (.iconst 0, 1) := gz_d tdX8_answer_t0_ok 10 rfl
theorem dX8_answer_21 : decode cX8_answer 21 = .ok (.istore 5, 2) := gz_d tdX8_answer_t0_ok 11 rfl
theorem dX8_answer_23 : decode cX8_answer 23 = .ok (.iload 5, 2) := gz_d tdX8_answer_t0_ok 12 rfl
theorem dX8_answer_25 : decode cX8_answer 25 = .ok (.aload_n 0, 1) := gz_d tdX8_answer_t0_ok 13 rfl
theorem dX8_answer_26 : decode cX8_answer 26 = .ok (.getfield 23, 3) := gz_d tdX8_answer_t0_ok 14 rfl
theorem dX8_answer_29 : decode cX8_answer 29 = .ok (.iload_n 1, 1) := gz_d tdX8_answer_t0_ok 15 rfl
theorem dX8_answer_30 : decode cX8_answer 30 = .ok (.iaload, 1) := gz_d tdX8_answer_t0_ok 16 rfl
theorem dX8_answer_31 : decode cX8_answer 31 = .ok (.if_icmp .ge 39, 3) := gz_d tdX8_answer_t0_ok 17 rfl
theorem dX8_answer_34 : decode cX8_answer 34 = .ok (.aload_n 0, 1) := gz_d tdX8_answer_t0_ok 18 rfl
theorem dX8_answer_35 : decode cX8_answer 35 = .ok (.iload_n 1, 1) := gz_d tdX8_answer_t0_ok 19 rfl
theorem dX8_answer_36 : decode cX8_answer 36 = .ok (.invokevirtual 170, 3) := gz_d tdX8_answer_t0_ok 20 rfl
theorem dX8_answer_39 : decode cX8_answer 39 = .ok (.dload_n 3, 1) := gz_d tdX8_answer_t0_ok 21 rfl
theorem dX8_answer_40 : decode cX8_answer 40 = .ok (.aload_n 0, 1) := gz_d tdX8_answer_t0_ok 22 rfl
theorem dX8_answer_41 : decode cX8_answer 41 = .ok (.getfield 26, 3) := gz_d tdX8_answer_t0_ok 23 rfl
theorem dX8_answer_44 : decode cX8_answer 44 = .ok (.iconst 4, 1) := gz_d tdX8_answer_t0_ok 24 rfl
theorem dX8_answer_45 : decode cX8_answer 45 = .ok (.iload_n 1, 1) := gz_d tdX8_answer_t0_ok 25 rfl
theorem dX8_answer_46 : decode cX8_answer 46 = .ok (.imul, 1) := gz_d tdX8_answer_t0_ok 26 rfl
theorem dX8_answer_47 : decode cX8_answer 47 = .ok (.iload 5, 2) := gz_d tdX8_answer_t0_ok 27 rfl
theorem dX8_answer_49 : decode cX8_answer 49 = .ok (.iadd, 1) := gz_d tdX8_answer_t0_ok 28 rfl
theorem dX8_answer_50 : decode cX8_answer 50 = .ok (.iaload, 1) := gz_d tdX8_answer_t0_ok 29 rfl
theorem dX8_answer_51 : decode cX8_answer 51 = .ok (.i2d, 1) := gz_d tdX8_answer_t0_ok 30 rfl
theorem dX8_answer_52 : decode cX8_answer 52 = .ok (.aload_n 0, 1) := gz_d tdX8_answer_t0_ok 31 rfl
theorem dX8_answer_53 : decode cX8_answer 53 = .ok (.iload_n 1, 1) := gz_d tdX8_answer_t0_ok 32 rfl
theorem dX8_answer_54 : decode cX8_answer 54 = .ok (.iload_n 2, 1) := gz_d tdX8_answer_t0_ok 33 rfl
theorem dX8_answer_55 : decode cX8_answer 55 = .ok (.iload 5, 2) := gz_d tdX8_answer_t0_ok 34 rfl
theorem dX8_answer_57 : decode cX8_answer 57 = .ok (.iconst 0, 1) := gz_d tdX8_answer_t0_ok 35 rfl
theorem dX8_answer_58 : decode cX8_answer 58 = .ok (.invokevirtual 173, 3) := gz_d tdX8_answer_t0_ok 36 rfl
theorem dX8_answer_61 : decode cX8_answer 61 = .ok (.dmul, 1) := gz_d tdX8_answer_t0_ok 37 rfl
theorem dX8_answer_62 : decode cX8_answer 62 = .ok (.dadd, 1) := gz_d tdX8_answer_t0_ok 38 rfl
theorem dX8_answer_63 : decode cX8_answer 63 = .ok (.dstore_n 3, 1) := gz_d tdX8_answer_t0_ok 39 rfl
theorem dX8_answer_64 : decode cX8_answer 64 = .ok (.iinc 5 1, 3) := gz_d tdX8_answer_t0_ok 40 rfl
theorem dX8_answer_67 : decode cX8_answer 67 = .ok (.goto (-44), 3) := gz_d tdX8_answer_t0_ok 41 rfl
theorem dX8_answer_70 : decode cX8_answer 70 = .ok (.dload_n 3, 1) := gz_d tdX8_answer_t0_ok 42 rfl
theorem dX8_answer_71 : decode cX8_answer 71 = .ok (.aload_n 0, 1) := gz_d tdX8_answer_t0_ok 43 rfl
theorem dX8_answer_72 : decode cX8_answer 72 = .ok (.aload_n 0, 1) := gz_d tdX8_answer_t0_ok 44 rfl
theorem dX8_answer_73 : decode cX8_answer 73 = .ok (.getfield 7, 3) := gz_d tdX8_answer_t0_ok 45 rfl
theorem dX8_answer_76 : decode cX8_answer 76 = .ok (.aload_n 0, 1) := gz_d tdX8_answer_t0_ok 46 rfl
theorem dX8_answer_77 : decode cX8_answer 77 = .ok (.getfield 13, 3) := gz_d tdX8_answer_t0_ok 47 rfl
theorem dX8_answer_80 : decode cX8_answer 80 = .ok (.iadd, 1) := gz_d tdX8_answer_t0_ok 48 rfl
theorem dX8_answer_81 : decode cX8_answer 81 = .ok (.invokevirtual 114, 3) := gz_d tdX8_answer_t0_ok 49 rfl
theorem dX8_answer_84 : decode cX8_answer 84 = .ok (.i2d, 1) := gz_d tdX8_answer_t0_ok 50 rfl
theorem dX8_answer_85 : decode cX8_answer 85 = .ok (.ddiv, 1) := gz_d tdX8_answer_t0_ok 51 rfl
theorem dX8_answer_86 : decode cX8_answer 86 = .ok (.invokestatic 145, 3) := gz_d tdX8_answer_t0_ok 52 rfl
theorem dX8_answer_89 : decode cX8_answer 89 = .ok (.lreturn, 1) := gz_d tdX8_answer_t0_ok 53 rfl
def tdX8_opening_t0 : List (Nat × Instr × Nat) := [(0, .iload_n 1, 1), (1, .invokestatic 117, 3), (4, .ifCond .eq 12, 3), (7, .aload_n 0, 1), (8, .iconst 0, 1), (9, .iload_n 2, 1), (10, .invokevirtual 97, 3), (13, .ifCond .ne 6, 3), (16, .bipush (-100), 2), (18, .ireturn, 1), (19, .aload_n 0, 1), (20, .iconst 0, 1), (21, .invokevirtual 170, 3), (24, .aload_n 0, 1), (25, .iconst 0, 1), (26, .iload_n 1, 1), (27, .iload_n 2, 1), (28, .iconst 0, 1), (29, .invokevirtual 173, 3), (32, .dstore_n 3, 1), (33, .aload_n 0, 1), (34, .getfield 54, 3), (37, .iconst 0, 1), (38, .iaload, 1), (39, .ireturn, 1)]
theorem tdX8_opening_t0_ok : gz_dec cX8_opening tdX8_opening_t0 = true := by decide +kernel
theorem dX8_opening_0 : decode cX8_opening 0 = .ok (.iload_n 1, 1) := gz_d tdX8_opening_t0_ok 0 rfl
theorem dX8_opening_1 : decode cX8_opening 1 = .ok (.invokestatic 117, 3) := gz_d tdX8_opening_t0_ok 1 rfl
theorem dX8_opening_4 : decode cX8_opening 4 = .ok (.ifCond .eq 12, 3) := gz_d tdX8_opening_t0_ok 2 rfl
theorem dX8_opening_7 : decode cX8_opening 7 = .ok (.aload_n 0, 1) := gz_d tdX8_opening_t0_ok 3 rfl
theorem dX8_opening_8 : decode cX8_opening 8 = .ok (.iconst 0, 1) := gz_d tdX8_opening_t0_ok 4 rfl
theorem dX8_opening_9 : decode cX8_opening 9 = .ok (.iload_n 2, 1) := gz_d tdX8_opening_t0_ok 5 rfl
theorem dX8_opening_10 : decode cX8_opening 10 = .ok (.invokevirtual 97, 3) := gz_d tdX8_opening_t0_ok 6 rfl
theorem dX8_opening_13 : decode cX8_opening 13 = .ok (.ifCond .ne 6, 3) := gz_d tdX8_opening_t0_ok 7 rfl
theorem dX8_opening_16 : decode cX8_opening 16 = .ok (.bipush (-100), 2) := gz_d tdX8_opening_t0_ok 8 rfl
theorem dX8_opening_18 : decode cX8_opening 18 = .ok (.ireturn, 1) := gz_d tdX8_opening_t0_ok 9 rfl
theorem dX8_opening_19 : decode cX8_opening 19 = .ok (.aload_n 0, 1) := gz_d tdX8_opening_t0_ok 10 rfl
theorem dX8_opening_20 : decode cX8_opening 20 = .ok (.iconst 0, 1) := gz_d tdX8_opening_t0_ok 11 rfl
theorem dX8_opening_21 : decode cX8_opening 21 = .ok (.invokevirtual 170, 3) := gz_d tdX8_opening_t0_ok 12 rfl
theorem dX8_opening_24 : decode cX8_opening 24 = .ok (.aload_n 0, 1) := gz_d tdX8_opening_t0_ok 13 rfl
theorem dX8_opening_25 : decode cX8_opening 25 = .ok (.iconst 0, 1) := gz_d tdX8_opening_t0_ok 14 rfl
theorem dX8_opening_26 : decode cX8_opening 26 = .ok (.iload_n 1, 1) := gz_d tdX8_opening_t0_ok 15 rfl
theorem dX8_opening_27 : decode cX8_opening 27 = .ok (.iload_n 2, 1) := gz_d tdX8_opening_t0_ok 16 rfl
theorem dX8_opening_28 : decode cX8_opening 28 = .ok (.iconst 0, 1) := gz_d tdX8_opening_t0_ok 17 rfl
theorem dX8_opening_29 : decode cX8_opening 29 = .ok (.invokevirtual 173, 3) := gz_d tdX8_opening_t0_ok 18 rfl
theorem dX8_opening_32 : decode cX8_opening 32 = .ok (.dstore_n 3, 1) := gz_d tdX8_opening_t0_ok 19 rfl
theorem dX8_opening_33 : decode cX8_opening 33 = .ok (.aload_n 0, 1) := gz_d tdX8_opening_t0_ok 20 rfl
theorem dX8_opening_34 : decode cX8_opening 34 = .ok (.getfield 54, 3) := gz_d tdX8_opening_t0_ok 21 rfl
theorem dX8_opening_37 : decode cX8_opening 37 = .ok (.iconst 0, 1) := gz_d tdX8_opening_t0_ok 22 rfl
theorem dX8_opening_38 : decode cX8_opening 38 = .ok (.iaload, 1) := gz_d tdX8_opening_t0_ok 23 rfl
theorem dX8_opening_39 : decode cX8_opening 39 = .ok (.ireturn, 1) := gz_d tdX8_opening_t0_ok 24 rfl
def tdX8_reply_t0 : List (Nat × Instr × Nat) := [(0, .iload_n 1, 1), (1, .invokestatic 117, 3), (4, .ifCond .eq 20, 3), (7, .aload_n 0, 1), (8, .iconst 1, 1), (9, .iload_n 2, 1), (10, .invokevirtual 97, 3), (13, .ifCond .eq 11, 3), (16, .aload_n 0, 1), (17, .iload_n 3, 1), (18, .invokevirtual 105, 3), (21, .ifCond .ne 6, 3), (24, .bipush (-100), 2), (26, .ireturn, 1), (27, .aload_n 0, 1), (28, .iconst 1, 1), (29, .invokevirtual 170, 3), (32, .aload_n 0, 1), (33, .iconst 1, 1), (34, .iload_n 1, 1), (35, .iconst 0, 1), (36, .iload_n 3, 1), (37, .invokevirtual 158, 3), (40, .istore 4, 2), (42, .aload_n 0, 1), (43, .iconst 1, 1), (44, .iload_n 3, 1), (45, .invokevirtual 166, 3), (48, .aload_n 0, 1), (49, .iconst 1, 1), (50, .iload_n 1, 1), (51, .iload_n 2, 1), (52, .iconst 1, 1), (53, .invokevirtual 173, 3), (56, .dstore 5, 2), (58, .aload_n 0, 1), (59, .getfield 54, 3), (62, .iconst 1, 1), (63, .iaload, 1), (64, .ireturn, 1)]
theorem tdX8_reply_t0_ok : gz_dec cX8_reply tdX8_reply_t0 = true := by decide +kernel
theorem dX8_reply_0 : decode cX8_reply 0 = .ok (.iload_n 1, 1) := gz_d tdX8_reply_t0_ok 0 rfl
theorem dX8_reply_1 : decode cX8_reply 1 = .ok (.invokestatic 117, 3) := gz_d tdX8_reply_t0_ok 1 rfl
theorem dX8_reply_4 : decode cX8_reply 4 = .ok (.ifCond .eq 20, 3) := gz_d tdX8_reply_t0_ok 2 rfl
theorem dX8_reply_7 : decode cX8_reply 7 = .ok (.aload_n 0, 1) := gz_d tdX8_reply_t0_ok 3 rfl
theorem dX8_reply_8 : decode cX8_reply 8 = .ok (.iconst 1, 1) := gz_d tdX8_reply_t0_ok 4 rfl
theorem dX8_reply_9 : decode cX8_reply 9 = .ok (.iload_n 2, 1) := gz_d tdX8_reply_t0_ok 5 rfl
theorem dX8_reply_10 : decode cX8_reply 10 = .ok (.invokevirtual 97, 3) := gz_d tdX8_reply_t0_ok 6 rfl
theorem dX8_reply_13 : decode cX8_reply 13 = .ok (.ifCond .eq 11, 3) := gz_d tdX8_reply_t0_ok 7 rfl
theorem dX8_reply_16 : decode cX8_reply 16 = .ok (.aload_n 0, 1) := gz_d tdX8_reply_t0_ok 8 rfl
theorem dX8_reply_17 : decode cX8_reply 17 = .ok (.iload_n 3, 1) := gz_d tdX8_reply_t0_ok 9 rfl
theorem dX8_reply_18 : decode cX8_reply 18 = .ok (.invokevirtual 105, 3) := gz_d tdX8_reply_t0_ok 10 rfl
theorem dX8_reply_21 : decode cX8_reply 21 = .ok (.ifCond .ne 6, 3) := gz_d tdX8_reply_t0_ok 11 rfl
theorem dX8_reply_24 : decode cX8_reply 24 = .ok (.bipush (-100), 2) := gz_d tdX8_reply_t0_ok 12 rfl
theorem dX8_reply_26 : decode cX8_reply 26 = .ok (.ireturn, 1) := gz_d tdX8_reply_t0_ok 13 rfl
theorem dX8_reply_27 : decode cX8_reply 27 = .ok (.aload_n 0, 1) := gz_d tdX8_reply_t0_ok 14 rfl
theorem dX8_reply_28 : decode cX8_reply 28 = .ok (.iconst 1, 1) := gz_d tdX8_reply_t0_ok 15 rfl
theorem dX8_reply_29 : decode cX8_reply 29 = .ok (.invokevirtual 170, 3) := gz_d tdX8_reply_t0_ok 16 rfl
theorem dX8_reply_32 : decode cX8_reply 32 = .ok (.aload_n 0, 1) := gz_d tdX8_reply_t0_ok 17 rfl
theorem dX8_reply_33 : decode cX8_reply 33 = .ok (.iconst 1, 1) := gz_d tdX8_reply_t0_ok 18 rfl
theorem dX8_reply_34 : decode cX8_reply 34 = .ok (.iload_n 1, 1) := gz_d tdX8_reply_t0_ok 19 rfl
theorem dX8_reply_35 : decode cX8_reply 35 = .ok (.iconst 0, 1) := gz_d tdX8_reply_t0_ok 20 rfl
theorem dX8_reply_36 : decode cX8_reply 36 = .ok (.iload_n 3, 1) := gz_d tdX8_reply_t0_ok 21 rfl
theorem dX8_reply_37 : decode cX8_reply 37 = .ok (.invokevirtual 158, 3) := gz_d tdX8_reply_t0_ok 22 rfl
theorem dX8_reply_40 : decode cX8_reply 40 = .ok (.istore 4, 2) := gz_d tdX8_reply_t0_ok 23 rfl
theorem dX8_reply_42 : decode cX8_reply 42 = .ok (.aload_n 0, 1) := gz_d tdX8_reply_t0_ok 24 rfl
theorem dX8_reply_43 : decode cX8_reply 43 = .ok (.iconst 1, 1) := gz_d tdX8_reply_t0_ok 25 rfl
theorem dX8_reply_44 : decode cX8_reply 44 = .ok (.iload_n 3, 1) := gz_d tdX8_reply_t0_ok 26 rfl
theorem dX8_reply_45 : decode cX8_reply 45 = .ok (.invokevirtual 166, 3) := gz_d tdX8_reply_t0_ok 27 rfl
theorem dX8_reply_48 : decode cX8_reply 48 = .ok (.aload_n 0, 1) := gz_d tdX8_reply_t0_ok 28 rfl
theorem dX8_reply_49 : decode cX8_reply 49 = .ok (.iconst 1, 1) := gz_d tdX8_reply_t0_ok 29 rfl
theorem dX8_reply_50 : decode cX8_reply 50 = .ok (.iload_n 1, 1) := gz_d tdX8_reply_t0_ok 30 rfl
theorem dX8_reply_51 : decode cX8_reply 51 = .ok (.iload_n 2, 1) := gz_d tdX8_reply_t0_ok 31 rfl
theorem dX8_reply_52 : decode cX8_reply 52 = .ok (.iconst 1, 1) := gz_d tdX8_reply_t0_ok 32 rfl
theorem dX8_reply_53 : decode cX8_reply 53 = .ok (.invokevirtual 173, 3) := gz_d tdX8_reply_t0_ok 33 rfl
theorem dX8_reply_56 : decode cX8_reply 56 = .ok (.dstore 5, 2) := gz_d tdX8_reply_t0_ok 34 rfl
theorem dX8_reply_58 : decode cX8_reply 58 = .ok (.aload_n 0, 1) := gz_d tdX8_reply_t0_ok 35 rfl
theorem dX8_reply_59 : decode cX8_reply 59 = .ok (.getfield 54, 3) := gz_d tdX8_reply_t0_ok 36 rfl
theorem dX8_reply_62 : decode cX8_reply 62 = .ok (.iconst 1, 1) := gz_d tdX8_reply_t0_ok 37 rfl
theorem dX8_reply_63 : decode cX8_reply 63 = .ok (.iaload, 1) := gz_d tdX8_reply_t0_ok 38 rfl
theorem dX8_reply_64 : decode cX8_reply 64 = .ok (.ireturn, 1) := gz_d tdX8_reply_t0_ok 39 rfl
def tdX8_drawn_t0 : List (Nat × Instr × Nat) := [(0, .aload_n 0, 1), (1, .iload_n 1, 1), (2, .invokevirtual 67, 3), (5, .istore_n 2, 1), (6, .iconst 0, 1), (7, .istore_n 3, 1), (8, .iload_n 3, 1), (9, .iconst 4, 1), (10, .if_icmp .ge 16, 3), (13, .aload_n 0, 1), (14, .getfield 61, 3), (17, .iload_n 3, 1), (18, .iconst 0, 1), (19, .iastore, 1), (20, .iinc 3 1, 3), (23, .goto (-15), 3), (26, .iconst 0, 1), (27, .istore_n 3, 1), (28, .iload_n 3, 1), (29, .iload_n 2, 1), (30, .if_icmp .ge 48, 3), (33, .aload_n 0, 1), (34, .aload_n 0, 1), (35, .getfield 176, 3), (38, .ldc 179, 2), (40, .imul, 1), (41, .sipush 12345, 3), (44, .iadd, 1), (45, .ldc 180, 2), (47, .iand, 1), (48, .putfield 176, 3), (51, .aload_n 0, 1), (52, .getfield 61, 3), (55, .aload_n 0, 1), (56, .getfield 176, 3), (59, .ldc 181, 2), (61, .idiv, 1), (62, .aload_n 0, 1), (63, .getfield 16, 3), (66, .irem, 1), (67, .dup2, 1), (68, .iaload, 1), (69, .iconst 1, 1), (70, .iadd, 1), (71, .iastore, 1), (72, .iinc 3 1, 3), (75, .goto (-47), 3), (78, .iconst (-1), 1), (79, .istore_n 3, 1), (80, .iconst 0, 1), (81, .istore 4, 2), (83, .iload 4, 2), (85, .aload_n 0, 1), (86, .getfield 23, 3), (89, .iload_n 1, 1), (90, .iaload, 1), (91, .if_icmp .ge 78, 3), (94, .iconst 1, 1), (95, .istore 5, 2), (97, .iconst 0, 1)]
theorem tdX8_drawn_t0_ok : gz_dec cX8_drawn tdX8_drawn_t0 = true := by decide +kernel
theorem dX8_drawn_0 : decode cX8_drawn 0 = .ok (.aload_n 0, 1) := gz_d tdX8_drawn_t0_ok 0 rfl
theorem dX8_drawn_1 : decode cX8_drawn 1 = .ok (.iload_n 1, 1) := gz_d tdX8_drawn_t0_ok 1 rfl
theorem dX8_drawn_2 : decode cX8_drawn 2 = .ok (.invokevirtual 67, 3) := gz_d tdX8_drawn_t0_ok 2 rfl
theorem dX8_drawn_5 : decode cX8_drawn 5 = .ok (.istore_n 2, 1) := gz_d tdX8_drawn_t0_ok 3 rfl
theorem dX8_drawn_6 : decode cX8_drawn 6 = .ok (.iconst 0, 1) := gz_d tdX8_drawn_t0_ok 4 rfl
theorem dX8_drawn_7 : decode cX8_drawn 7 = .ok (.istore_n 3, 1) := gz_d tdX8_drawn_t0_ok 5 rfl
theorem dX8_drawn_8 : decode cX8_drawn 8 = .ok (.iload_n 3, 1) := gz_d tdX8_drawn_t0_ok 6 rfl
theorem dX8_drawn_9 : decode cX8_drawn 9 = .ok (.iconst 4, 1) := gz_d tdX8_drawn_t0_ok 7 rfl
theorem dX8_drawn_10 : decode cX8_drawn 10 = .ok (.if_icmp .ge 16, 3) := gz_d tdX8_drawn_t0_ok 8 rfl
theorem dX8_drawn_13 : decode cX8_drawn 13 = .ok (.aload_n 0, 1) := gz_d tdX8_drawn_t0_ok 9 rfl
theorem dX8_drawn_14 : decode cX8_drawn 14 = .ok (.getfield 61, 3) := gz_d tdX8_drawn_t0_ok 10 rfl
theorem dX8_drawn_17 : decode cX8_drawn 17 = .ok (.iload_n 3, 1) := gz_d tdX8_drawn_t0_ok 11 rfl
theorem dX8_drawn_18 : decode cX8_drawn 18 = .ok (.iconst 0, 1) := gz_d tdX8_drawn_t0_ok 12 rfl
theorem dX8_drawn_19 : decode cX8_drawn 19 = .ok (.iastore, 1) := gz_d tdX8_drawn_t0_ok 13 rfl
theorem dX8_drawn_20 : decode cX8_drawn 20 = .ok (.iinc 3 1, 3) := gz_d tdX8_drawn_t0_ok 14 rfl
theorem dX8_drawn_23 : decode cX8_drawn 23 = .ok (.goto (-15), 3) := gz_d tdX8_drawn_t0_ok 15 rfl
theorem dX8_drawn_26 : decode cX8_drawn 26 = .ok (.iconst 0, 1) := gz_d tdX8_drawn_t0_ok 16 rfl
theorem dX8_drawn_27 : decode cX8_drawn 27 = .ok (.istore_n 3, 1) := gz_d tdX8_drawn_t0_ok 17 rfl
theorem dX8_drawn_28 : decode cX8_drawn 28 = .ok (.iload_n 3, 1) := gz_d tdX8_drawn_t0_ok 18 rfl
theorem dX8_drawn_29 : decode cX8_drawn 29 = .ok (.iload_n 2, 1) := gz_d tdX8_drawn_t0_ok 19 rfl
theorem dX8_drawn_30 : decode cX8_drawn 30 = .ok (.if_icmp .ge 48, 3) := gz_d tdX8_drawn_t0_ok 20 rfl
theorem dX8_drawn_33 : decode cX8_drawn 33 = .ok (.aload_n 0, 1) := gz_d tdX8_drawn_t0_ok 21 rfl
theorem dX8_drawn_34 : decode cX8_drawn 34 = .ok (.aload_n 0, 1) := gz_d tdX8_drawn_t0_ok 22 rfl
theorem dX8_drawn_35 : decode cX8_drawn 35 = .ok (.getfield 176, 3) := gz_d tdX8_drawn_t0_ok 23 rfl
theorem dX8_drawn_38 : decode cX8_drawn 38 = .ok (.ldc 179, 2) := gz_d tdX8_drawn_t0_ok 24 rfl
theorem dX8_drawn_40 : decode cX8_drawn 40 = .ok (.imul, 1) := gz_d tdX8_drawn_t0_ok 25 rfl
theorem dX8_drawn_41 : decode cX8_drawn 41 = .ok (.sipush 12345, 3) := gz_d tdX8_drawn_t0_ok 26 rfl
theorem dX8_drawn_44 : decode cX8_drawn 44 = .ok (.iadd, 1) := gz_d tdX8_drawn_t0_ok 27 rfl
theorem dX8_drawn_45 : decode cX8_drawn 45 = .ok (.ldc 180, 2) := gz_d tdX8_drawn_t0_ok 28 rfl
theorem dX8_drawn_47 : decode cX8_drawn 47 = .ok (.iand, 1) := gz_d tdX8_drawn_t0_ok 29 rfl
theorem dX8_drawn_48 : decode cX8_drawn 48 = .ok (.putfield 176, 3) := gz_d tdX8_drawn_t0_ok 30 rfl
theorem dX8_drawn_51 : decode cX8_drawn 51 = .ok (.aload_n 0, 1) := gz_d tdX8_drawn_t0_ok 31 rfl
theorem dX8_drawn_52 : decode cX8_drawn 52 = .ok (.getfield 61, 3) := gz_d tdX8_drawn_t0_ok 32 rfl
theorem dX8_drawn_55 : decode cX8_drawn 55 = .ok (.aload_n 0, 1) := gz_d tdX8_drawn_t0_ok 33 rfl
theorem dX8_drawn_56 : decode cX8_drawn 56 = .ok (.getfield 176, 3) := gz_d tdX8_drawn_t0_ok 34 rfl
theorem dX8_drawn_59 : decode cX8_drawn 59 = .ok (.ldc 181, 2) := gz_d tdX8_drawn_t0_ok 35 rfl
theorem dX8_drawn_61 : decode cX8_drawn 61 = .ok (.idiv, 1) := gz_d tdX8_drawn_t0_ok 36 rfl
theorem dX8_drawn_62 : decode cX8_drawn 62 = .ok (.aload_n 0, 1) := gz_d tdX8_drawn_t0_ok 37 rfl
theorem dX8_drawn_63 : decode cX8_drawn 63 = .ok (.getfield 16, 3) := gz_d tdX8_drawn_t0_ok 38 rfl
theorem dX8_drawn_66 : decode cX8_drawn 66 = .ok (.irem, 1) := gz_d tdX8_drawn_t0_ok 39 rfl
theorem dX8_drawn_67 : decode cX8_drawn 67 = .ok (.dup2, 1) := gz_d tdX8_drawn_t0_ok 40 rfl
theorem dX8_drawn_68 : decode cX8_drawn 68 = .ok (.iaload, 1) := gz_d tdX8_drawn_t0_ok 41 rfl
theorem dX8_drawn_69 : decode cX8_drawn 69 = .ok (.iconst 1, 1) := gz_d tdX8_drawn_t0_ok 42 rfl
theorem dX8_drawn_70 : decode cX8_drawn 70 = .ok (.iadd, 1) := gz_d tdX8_drawn_t0_ok 43 rfl
theorem dX8_drawn_71 : decode cX8_drawn 71 = .ok (.iastore, 1) := gz_d tdX8_drawn_t0_ok 44 rfl
theorem dX8_drawn_72 : decode cX8_drawn 72 = .ok (.iinc 3 1, 3) := gz_d tdX8_drawn_t0_ok 45 rfl
theorem dX8_drawn_75 : decode cX8_drawn 75 = .ok (.goto (-47), 3) := gz_d tdX8_drawn_t0_ok 46 rfl
theorem dX8_drawn_78 : decode cX8_drawn 78 = .ok (.iconst (-1), 1) := gz_d tdX8_drawn_t0_ok 47 rfl
theorem dX8_drawn_79 : decode cX8_drawn 79 = .ok (.istore_n 3, 1) := gz_d tdX8_drawn_t0_ok 48 rfl
theorem dX8_drawn_80 : decode cX8_drawn 80 = .ok (.iconst 0, 1) := gz_d tdX8_drawn_t0_ok 49 rfl
theorem dX8_drawn_81 : decode cX8_drawn 81 = .ok (.istore 4, 2) := gz_d tdX8_drawn_t0_ok 50 rfl
theorem dX8_drawn_83 : decode cX8_drawn 83 = .ok (.iload 4, 2) := gz_d tdX8_drawn_t0_ok 51 rfl
theorem dX8_drawn_85 : decode cX8_drawn 85 = .ok (.aload_n 0, 1) := gz_d tdX8_drawn_t0_ok 52 rfl
theorem dX8_drawn_86 : decode cX8_drawn 86 = .ok (.getfield 23, 3) := gz_d tdX8_drawn_t0_ok 53 rfl
theorem dX8_drawn_89 : decode cX8_drawn 89 = .ok (.iload_n 1, 1) := gz_d tdX8_drawn_t0_ok 54 rfl
theorem dX8_drawn_90 : decode cX8_drawn 90 = .ok (.iaload, 1) := gz_d tdX8_drawn_t0_ok 55 rfl
theorem dX8_drawn_91 : decode cX8_drawn 91 = .ok (.if_icmp .ge 78, 3) := gz_d tdX8_drawn_t0_ok 56 rfl
theorem dX8_drawn_94 : decode cX8_drawn 94 = .ok (.iconst 1, 1) := gz_d tdX8_drawn_t0_ok 57 rfl
theorem dX8_drawn_95 : decode cX8_drawn 95 = .ok (.istore 5, 2) := gz_d tdX8_drawn_t0_ok 58 rfl
theorem dX8_drawn_97 : decode cX8_drawn 97 = .ok (.iconst 0, 1) := gz_d tdX8_drawn_t0_ok 59 rfl
def tdX8_drawn_t1 : List (Nat × Instr × Nat) := [(98, .istore 6, 2), (100, .iload 6, 2), (102, .iconst 4, 1), (103, .if_icmp .ge 48, 3), (106, .iload 5, 2), (108, .ifCond .eq 34, 3), (111, .aload_n 0, 1), (112, .getfield 19, 3), (115, .bipush 16, 2), (117, .iload_n 1, 1), (118, .imul, 1), (119, .iconst 4, 1), (120, .iload 4, 2), (122, .imul, 1), (123, .iadd, 1), (124, .iload 6, 2), (126, .iadd, 1), (127, .iaload, 1), (128, .aload_n 0, 1), (129, .getfield 61, 3), (132, .iload 6, 2), (134, .iaload, 1), (135, .if_icmp .ne 7, 3), (138, .iconst 1, 1), (139, .goto 4, 3), (142, .iconst 0, 1), (143, .istore 5, 2), (145, .iinc 6 1, 3), (148, .goto (-48), 3), (151, .iload 5, 2), (153, .ifCond .eq 8, 3), (156, .iload 4, 2), (158, .goto 4, 3), (161, .iload_n 3, 1), (162, .istore_n 3, 1), (163, .iinc 4 1, 3), (166, .goto (-83), 3), (169, .iload_n 3, 1), (170, .ireturn, 1)]
theorem tdX8_drawn_t1_ok : gz_dec cX8_drawn tdX8_drawn_t1 = true := by decide +kernel
theorem dX8_drawn_98 : decode cX8_drawn 98 = .ok (.istore 6, 2) := gz_d tdX8_drawn_t1_ok 0 rfl
theorem dX8_drawn_100 : decode cX8_drawn 100 = .ok (.iload 6, 2) := gz_d tdX8_drawn_t1_ok 1 rfl
theorem dX8_drawn_102 : decode cX8_drawn 102 = .ok (.iconst 4, 1) := gz_d tdX8_drawn_t1_ok 2 rfl
theorem dX8_drawn_103 : decode cX8_drawn 103 = .ok (.if_icmp .ge 48, 3) := gz_d tdX8_drawn_t1_ok 3 rfl
theorem dX8_drawn_106 : decode cX8_drawn 106 = .ok (.iload 5, 2) := gz_d tdX8_drawn_t1_ok 4 rfl
theorem dX8_drawn_108 : decode cX8_drawn 108 = .ok (.ifCond .eq 34, 3) := gz_d tdX8_drawn_t1_ok 5 rfl
theorem dX8_drawn_111 : decode cX8_drawn 111 = .ok (.aload_n 0, 1) := gz_d tdX8_drawn_t1_ok 6 rfl
theorem dX8_drawn_112 : decode cX8_drawn 112 = .ok (.getfield 19, 3) := gz_d tdX8_drawn_t1_ok 7 rfl
theorem dX8_drawn_115 : decode cX8_drawn 115 = .ok (.bipush 16, 2) := gz_d tdX8_drawn_t1_ok 8 rfl
theorem dX8_drawn_117 : decode cX8_drawn 117 = .ok (.iload_n 1, 1) := gz_d tdX8_drawn_t1_ok 9 rfl
theorem dX8_drawn_118 : decode cX8_drawn 118 = .ok (.imul, 1) := gz_d tdX8_drawn_t1_ok 10 rfl
theorem dX8_drawn_119 : decode cX8_drawn 119 = .ok (.iconst 4, 1) := gz_d tdX8_drawn_t1_ok 11 rfl
theorem dX8_drawn_120 : decode cX8_drawn 120 = .ok (.iload 4, 2) := gz_d tdX8_drawn_t1_ok 12 rfl
theorem dX8_drawn_122 : decode cX8_drawn 122 = .ok (.imul, 1) := gz_d tdX8_drawn_t1_ok 13 rfl
theorem dX8_drawn_123 : decode cX8_drawn 123 = .ok (.iadd, 1) := gz_d tdX8_drawn_t1_ok 14 rfl
theorem dX8_drawn_124 : decode cX8_drawn 124 = .ok (.iload 6, 2) := gz_d tdX8_drawn_t1_ok 15 rfl
theorem dX8_drawn_126 : decode cX8_drawn 126 = .ok (.iadd, 1) := gz_d tdX8_drawn_t1_ok 16 rfl
theorem dX8_drawn_127 : decode cX8_drawn 127 = .ok (.iaload, 1) := gz_d tdX8_drawn_t1_ok 17 rfl
theorem dX8_drawn_128 : decode cX8_drawn 128 = .ok (.aload_n 0, 1) := gz_d tdX8_drawn_t1_ok 18 rfl
theorem dX8_drawn_129 : decode cX8_drawn 129 = .ok (.getfield 61, 3) := gz_d tdX8_drawn_t1_ok 19 rfl
theorem dX8_drawn_132 : decode cX8_drawn 132 = .ok (.iload 6, 2) := gz_d tdX8_drawn_t1_ok 20 rfl
theorem dX8_drawn_134 : decode cX8_drawn 134 = .ok (.iaload, 1) := gz_d tdX8_drawn_t1_ok 21 rfl
theorem dX8_drawn_135 : decode cX8_drawn 135 = .ok (.if_icmp .ne 7, 3) := gz_d tdX8_drawn_t1_ok 22 rfl
theorem dX8_drawn_138 : decode cX8_drawn 138 = .ok (.iconst 1, 1) := gz_d tdX8_drawn_t1_ok 23 rfl
theorem dX8_drawn_139 : decode cX8_drawn 139 = .ok (.goto 4, 3) := gz_d tdX8_drawn_t1_ok 24 rfl
theorem dX8_drawn_142 : decode cX8_drawn 142 = .ok (.iconst 0, 1) := gz_d tdX8_drawn_t1_ok 25 rfl
theorem dX8_drawn_143 : decode cX8_drawn 143 = .ok (.istore 5, 2) := gz_d tdX8_drawn_t1_ok 26 rfl
theorem dX8_drawn_145 : decode cX8_drawn 145 = .ok (.iinc 6 1, 3) := gz_d tdX8_drawn_t1_ok 27 rfl
theorem dX8_drawn_148 : decode cX8_drawn 148 = .ok (.goto (-48), 3) := gz_d tdX8_drawn_t1_ok 28 rfl
theorem dX8_drawn_151 : decode cX8_drawn 151 = .ok (.iload 5, 2) := gz_d tdX8_drawn_t1_ok 29 rfl
theorem dX8_drawn_153 : decode cX8_drawn 153 = .ok (.ifCond .eq 8, 3) := gz_d tdX8_drawn_t1_ok 30 rfl
theorem dX8_drawn_156 : decode cX8_drawn 156 = .ok (.iload 4, 2) := gz_d tdX8_drawn_t1_ok 31 rfl
theorem dX8_drawn_158 : decode cX8_drawn 158 = .ok (.goto 4, 3) := gz_d tdX8_drawn_t1_ok 32 rfl
theorem dX8_drawn_161 : decode cX8_drawn 161 = .ok (.iload_n 3, 1) := gz_d tdX8_drawn_t1_ok 33 rfl
theorem dX8_drawn_162 : decode cX8_drawn 162 = .ok (.istore_n 3, 1) := gz_d tdX8_drawn_t1_ok 34 rfl
theorem dX8_drawn_163 : decode cX8_drawn 163 = .ok (.iinc 4 1, 3) := gz_d tdX8_drawn_t1_ok 35 rfl
theorem dX8_drawn_166 : decode cX8_drawn 166 = .ok (.goto (-83), 3) := gz_d tdX8_drawn_t1_ok 36 rfl
theorem dX8_drawn_169 : decode cX8_drawn 169 = .ok (.iload_n 3, 1) := gz_d tdX8_drawn_t1_ok 37 rfl
theorem dX8_drawn_170 : decode cX8_drawn 170 = .ok (.ireturn, 1) := gz_d tdX8_drawn_t1_ok 38 rfl
def tdX8_round_t0 : List (Nat × Instr × Nat) := [(0, .iload_n 1, 1), (1, .ifCond .ge 6, 3), (4, .bipush (-2), 2), (6, .ireturn, 1), (7, .aload_n 0, 1), (8, .iload_n 1, 1), (9, .putfield 176, 3), (12, .aload_n 0, 1), (13, .getfield 32, 3), (16, .iconst 0, 1), (17, .aload_n 0, 1), (18, .iconst 0, 1), (19, .invokevirtual 182, 3), (22, .iastore, 1), (23, .aload_n 0, 1), (24, .getfield 32, 3), (27, .iconst 1, 1), (28, .aload_n 0, 1), (29, .iconst 1, 1), (30, .invokevirtual 182, 3), (33, .iastore, 1), (34, .aload_n 0, 1), (35, .iconst 1, 1), (36, .putfield 78, 3), (39, .aload_n 0, 1), (40, .iconst 0, 1), (41, .putfield 185, 3), (44, .aload_n 0, 1), (45, .iconst (-1), 1), (46, .putfield 188, 3), (49, .aload_n 0, 1), (50, .iconst 0, 1), (51, .putfield 191, 3), (54, .aload_n 0, 1), (55, .iconst (-1), 1), (56, .putfield 194, 3), (59, .aload_n 0, 1), (60, .getfield 32, 3), (63, .iconst 0, 1), (64, .iaload, 1), (65, .ireturn, 1)]
theorem tdX8_round_t0_ok : gz_dec cX8_round tdX8_round_t0 = true := by decide +kernel
theorem dX8_round_0 : decode cX8_round 0 = .ok (.iload_n 1, 1) := gz_d tdX8_round_t0_ok 0 rfl
theorem dX8_round_1 : decode cX8_round 1 = .ok (.ifCond .ge 6, 3) := gz_d tdX8_round_t0_ok 1 rfl
theorem dX8_round_4 : decode cX8_round 4 = .ok (.bipush (-2), 2) := gz_d tdX8_round_t0_ok 2 rfl
theorem dX8_round_6 : decode cX8_round 6 = .ok (.ireturn, 1) := gz_d tdX8_round_t0_ok 3 rfl
theorem dX8_round_7 : decode cX8_round 7 = .ok (.aload_n 0, 1) := gz_d tdX8_round_t0_ok 4 rfl
theorem dX8_round_8 : decode cX8_round 8 = .ok (.iload_n 1, 1) := gz_d tdX8_round_t0_ok 5 rfl
theorem dX8_round_9 : decode cX8_round 9 = .ok (.putfield 176, 3) := gz_d tdX8_round_t0_ok 6 rfl
theorem dX8_round_12 : decode cX8_round 12 = .ok (.aload_n 0, 1) := gz_d tdX8_round_t0_ok 7 rfl
theorem dX8_round_13 : decode cX8_round 13 = .ok (.getfield 32, 3) := gz_d tdX8_round_t0_ok 8 rfl
theorem dX8_round_16 : decode cX8_round 16 = .ok (.iconst 0, 1) := gz_d tdX8_round_t0_ok 9 rfl
theorem dX8_round_17 : decode cX8_round 17 = .ok (.aload_n 0, 1) := gz_d tdX8_round_t0_ok 10 rfl
theorem dX8_round_18 : decode cX8_round 18 = .ok (.iconst 0, 1) := gz_d tdX8_round_t0_ok 11 rfl
theorem dX8_round_19 : decode cX8_round 19 = .ok (.invokevirtual 182, 3) := gz_d tdX8_round_t0_ok 12 rfl
theorem dX8_round_22 : decode cX8_round 22 = .ok (.iastore, 1) := gz_d tdX8_round_t0_ok 13 rfl
theorem dX8_round_23 : decode cX8_round 23 = .ok (.aload_n 0, 1) := gz_d tdX8_round_t0_ok 14 rfl
theorem dX8_round_24 : decode cX8_round 24 = .ok (.getfield 32, 3) := gz_d tdX8_round_t0_ok 15 rfl
theorem dX8_round_27 : decode cX8_round 27 = .ok (.iconst 1, 1) := gz_d tdX8_round_t0_ok 16 rfl
theorem dX8_round_28 : decode cX8_round 28 = .ok (.aload_n 0, 1) := gz_d tdX8_round_t0_ok 17 rfl
theorem dX8_round_29 : decode cX8_round 29 = .ok (.iconst 1, 1) := gz_d tdX8_round_t0_ok 18 rfl
theorem dX8_round_30 : decode cX8_round 30 = .ok (.invokevirtual 182, 3) := gz_d tdX8_round_t0_ok 19 rfl
theorem dX8_round_33 : decode cX8_round 33 = .ok (.iastore, 1) := gz_d tdX8_round_t0_ok 20 rfl
theorem dX8_round_34 : decode cX8_round 34 = .ok (.aload_n 0, 1) := gz_d tdX8_round_t0_ok 21 rfl
theorem dX8_round_35 : decode cX8_round 35 = .ok (.iconst 1, 1) := gz_d tdX8_round_t0_ok 22 rfl
theorem dX8_round_36 : decode cX8_round 36 = .ok (.putfield 78, 3) := gz_d tdX8_round_t0_ok 23 rfl
theorem dX8_round_39 : decode cX8_round 39 = .ok (.aload_n 0, 1) := gz_d tdX8_round_t0_ok 24 rfl
theorem dX8_round_40 : decode cX8_round 40 = .ok (.iconst 0, 1) := gz_d tdX8_round_t0_ok 25 rfl
theorem dX8_round_41 : decode cX8_round 41 = .ok (.putfield 185, 3) := gz_d tdX8_round_t0_ok 26 rfl
theorem dX8_round_44 : decode cX8_round 44 = .ok (.aload_n 0, 1) := gz_d tdX8_round_t0_ok 27 rfl
theorem dX8_round_45 : decode cX8_round 45 = .ok (.iconst (-1), 1) := gz_d tdX8_round_t0_ok 28 rfl
theorem dX8_round_46 : decode cX8_round 46 = .ok (.putfield 188, 3) := gz_d tdX8_round_t0_ok 29 rfl
theorem dX8_round_49 : decode cX8_round 49 = .ok (.aload_n 0, 1) := gz_d tdX8_round_t0_ok 30 rfl
theorem dX8_round_50 : decode cX8_round 50 = .ok (.iconst 0, 1) := gz_d tdX8_round_t0_ok 31 rfl
theorem dX8_round_51 : decode cX8_round 51 = .ok (.putfield 191, 3) := gz_d tdX8_round_t0_ok 32 rfl
theorem dX8_round_54 : decode cX8_round 54 = .ok (.aload_n 0, 1) := gz_d tdX8_round_t0_ok 33 rfl
theorem dX8_round_55 : decode cX8_round 55 = .ok (.iconst (-1), 1) := gz_d tdX8_round_t0_ok 34 rfl
theorem dX8_round_56 : decode cX8_round 56 = .ok (.putfield 194, 3) := gz_d tdX8_round_t0_ok 35 rfl
theorem dX8_round_59 : decode cX8_round 59 = .ok (.aload_n 0, 1) := gz_d tdX8_round_t0_ok 36 rfl
theorem dX8_round_60 : decode cX8_round 60 = .ok (.getfield 32, 3) := gz_d tdX8_round_t0_ok 37 rfl
theorem dX8_round_63 : decode cX8_round 63 = .ok (.iconst 0, 1) := gz_d tdX8_round_t0_ok 38 rfl
theorem dX8_round_64 : decode cX8_round 64 = .ok (.iaload, 1) := gz_d tdX8_round_t0_ok 39 rfl
theorem dX8_round_65 : decode cX8_round 65 = .ok (.ireturn, 1) := gz_d tdX8_round_t0_ok 40 rfl
def tdX8_held_t0 : List (Nat × Instr × Nat) := [(0, .iload_n 1, 1), (1, .invokestatic 93, 3), (4, .ifCond .ne 8, 3), (7, .bipush (-2), 2), (9, .goto 21, 3), (12, .aload_n 0, 1), (13, .getfield 78, 3), (16, .ifCond .eq 12, 3), (19, .aload_n 0, 1), (20, .getfield 32, 3), (23, .iload_n 1, 1), (24, .iaload, 1), (25, .goto 5, 3), (28, .bipush (-3), 2), (30, .ireturn, 1)]
theorem tdX8_held_t0_ok : gz_dec cX8_held tdX8_held_t0 = true := by decide +kernel
theorem dX8_held_0 : decode cX8_held 0 = .ok (.iload_n 1, 1) := gz_d tdX8_held_t0_ok 0 rfl
theorem dX8_held_1 : decode cX8_held 1 = .ok (.invokestatic 93, 3) := gz_d tdX8_held_t0_ok 1 rfl
theorem dX8_held_4 : decode cX8_held 4 = .ok (.ifCond .ne 8, 3) := gz_d tdX8_held_t0_ok 2 rfl
theorem dX8_held_7 : decode cX8_held 7 = .ok (.bipush (-2), 2) := gz_d tdX8_held_t0_ok 3 rfl
theorem dX8_held_9 : decode cX8_held 9 = .ok (.goto 21, 3) := gz_d tdX8_held_t0_ok 4 rfl
theorem dX8_held_12 : decode cX8_held 12 = .ok (.aload_n 0, 1) := gz_d tdX8_held_t0_ok 5 rfl
theorem dX8_held_13 : decode cX8_held 13 = .ok (.getfield 78, 3) := gz_d tdX8_held_t0_ok 6 rfl
theorem dX8_held_16 : decode cX8_held 16 = .ok (.ifCond .eq 12, 3) := gz_d tdX8_held_t0_ok 7 rfl
theorem dX8_held_19 : decode cX8_held 19 = .ok (.aload_n 0, 1) := gz_d tdX8_held_t0_ok 8 rfl
theorem dX8_held_20 : decode cX8_held 20 = .ok (.getfield 32, 3) := gz_d tdX8_held_t0_ok 9 rfl
theorem dX8_held_23 : decode cX8_held 23 = .ok (.iload_n 1, 1) := gz_d tdX8_held_t0_ok 10 rfl
theorem dX8_held_24 : decode cX8_held 24 = .ok (.iaload, 1) := gz_d tdX8_held_t0_ok 11 rfl
theorem dX8_held_25 : decode cX8_held 25 = .ok (.goto 5, 3) := gz_d tdX8_held_t0_ok 12 rfl
theorem dX8_held_28 : decode cX8_held 28 = .ok (.bipush (-3), 2) := gz_d tdX8_held_t0_ok 13 rfl
theorem dX8_held_30 : decode cX8_held 30 = .ok (.ireturn, 1) := gz_d tdX8_held_t0_ok 14 rfl
def tdX8_move_t0 : List (Nat × Instr × Nat) := [(0, .iload_n 1, 1), (1, .iconst (-1), 1), (2, .if_icmp .eq 14, 3), (5, .aload_n 0, 1), (6, .iload_n 1, 1), (7, .invokevirtual 105, 3), (10, .ifCond .ne 6, 3), (13, .bipush (-2), 2), (15, .ireturn, 1), (16, .aload_n 0, 1), (17, .getfield 78, 3), (20, .ifCond .eq 23, 3), (23, .aload_n 0, 1), (24, .getfield 185, 3), (27, .iconst (-1), 1), (28, .if_icmp .eq 15, 3), (31, .aload_n 0, 1), (32, .aload_n 0, 1), (33, .getfield 188, 3), (36, .iload_n 1, 1), (37, .invokevirtual 120, 3), (40, .ifCond .ne 6, 3), (43, .bipush (-3), 2), (45, .ireturn, 1), (46, .iload_n 1, 1), (47, .iconst (-1), 1), (48, .if_icmp .eq 30, 3), (51, .aload_n 0, 1), (52, .iload_n 1, 1), (53, .putfield 188, 3), (56, .aload_n 0, 1), (57, .dup, 1), (58, .getfield 191, 3), (61, .iconst 1, 1), (62, .iadd, 1), (63, .putfield 191, 3), (66, .aload_n 0, 1), (67, .iconst 1, 1), (68, .aload_n 0, 1), (69, .getfield 185, 3), (72, .isub, 1), (73, .putfield 185, 3), (76, .iconst 0, 1), (77, .ireturn, 1), (78, .aload_n 0, 1), (79, .aload_n 0, 1), (80, .iconst 0, 1), (81, .aload_n 0, 1), (82, .getfield 185, 3), (85, .aload_n 0, 1), (86, .getfield 32, 3), (89, .iconst 0, 1), (90, .iaload, 1), (91, .aload_n 0, 1), (92, .getfield 32, 3), (95, .iconst 1, 1), (96, .iaload, 1), (97, .aload_n 0, 1), (98, .getfield 188, 3), (101, .invokevirtual 135, 3)]
theorem tdX8_move_t0_ok : gz_dec cX8_move tdX8_move_t0 = true := by decide +kernel
theorem dX8_move_0 : decode cX8_move 0 = .ok (.iload_n 1, 1) := gz_d tdX8_move_t0_ok 0 rfl
theorem dX8_move_1 : decode cX8_move 1 = .ok (.iconst (-1), 1) := gz_d tdX8_move_t0_ok 1 rfl
theorem dX8_move_2 : decode cX8_move 2 = .ok (.if_icmp .eq 14, 3) := gz_d tdX8_move_t0_ok 2 rfl
theorem dX8_move_5 : decode cX8_move 5 = .ok (.aload_n 0, 1) := gz_d tdX8_move_t0_ok 3 rfl
theorem dX8_move_6 : decode cX8_move 6 = .ok (.iload_n 1, 1) := gz_d tdX8_move_t0_ok 4 rfl
theorem dX8_move_7 : decode cX8_move 7 = .ok (.invokevirtual 105, 3) := gz_d tdX8_move_t0_ok 5 rfl
theorem dX8_move_10 : decode cX8_move 10 = .ok (.ifCond .ne 6, 3) := gz_d tdX8_move_t0_ok 6 rfl
theorem dX8_move_13 : decode cX8_move 13 = .ok (.bipush (-2), 2) := gz_d tdX8_move_t0_ok 7 rfl
theorem dX8_move_15 : decode cX8_move 15 = .ok (.ireturn, 1) := gz_d tdX8_move_t0_ok 8 rfl
theorem dX8_move_16 : decode cX8_move 16 = .ok (.aload_n 0, 1) := gz_d tdX8_move_t0_ok 9 rfl
theorem dX8_move_17 : decode cX8_move 17 = .ok (.getfield 78, 3) := gz_d tdX8_move_t0_ok 10 rfl
theorem dX8_move_20 : decode cX8_move 20 = .ok (.ifCond .eq 23, 3) := gz_d tdX8_move_t0_ok 11 rfl
theorem dX8_move_23 : decode cX8_move 23 = .ok (.aload_n 0, 1) := gz_d tdX8_move_t0_ok 12 rfl
theorem dX8_move_24 : decode cX8_move 24 = .ok (.getfield 185, 3) := gz_d tdX8_move_t0_ok 13 rfl
theorem dX8_move_27 : decode cX8_move 27 = .ok (.iconst (-1), 1) := gz_d tdX8_move_t0_ok 14 rfl
theorem dX8_move_28 : decode cX8_move 28 = .ok (.if_icmp .eq 15, 3) := gz_d tdX8_move_t0_ok 15 rfl
theorem dX8_move_31 : decode cX8_move 31 = .ok (.aload_n 0, 1) := gz_d tdX8_move_t0_ok 16 rfl
theorem dX8_move_32 : decode cX8_move 32 = .ok (.aload_n 0, 1) := gz_d tdX8_move_t0_ok 17 rfl
theorem dX8_move_33 : decode cX8_move 33 = .ok (.getfield 188, 3) := gz_d tdX8_move_t0_ok 18 rfl
theorem dX8_move_36 : decode cX8_move 36 = .ok (.iload_n 1, 1) := gz_d tdX8_move_t0_ok 19 rfl
theorem dX8_move_37 : decode cX8_move 37 = .ok (.invokevirtual 120, 3) := gz_d tdX8_move_t0_ok 20 rfl
theorem dX8_move_40 : decode cX8_move 40 = .ok (.ifCond .ne 6, 3) := gz_d tdX8_move_t0_ok 21 rfl
theorem dX8_move_43 : decode cX8_move 43 = .ok (.bipush (-3), 2) := gz_d tdX8_move_t0_ok 22 rfl
theorem dX8_move_45 : decode cX8_move 45 = .ok (.ireturn, 1) := gz_d tdX8_move_t0_ok 23 rfl
theorem dX8_move_46 : decode cX8_move 46 = .ok (.iload_n 1, 1) := gz_d tdX8_move_t0_ok 24 rfl
theorem dX8_move_47 : decode cX8_move 47 = .ok (.iconst (-1), 1) := gz_d tdX8_move_t0_ok 25 rfl
theorem dX8_move_48 : decode cX8_move 48 = .ok (.if_icmp .eq 30, 3) := gz_d tdX8_move_t0_ok 26 rfl
theorem dX8_move_51 : decode cX8_move 51 = .ok (.aload_n 0, 1) := gz_d tdX8_move_t0_ok 27 rfl
theorem dX8_move_52 : decode cX8_move 52 = .ok (.iload_n 1, 1) := gz_d tdX8_move_t0_ok 28 rfl
theorem dX8_move_53 : decode cX8_move 53 = .ok (.putfield 188, 3) := gz_d tdX8_move_t0_ok 29 rfl
theorem dX8_move_56 : decode cX8_move 56 = .ok (.aload_n 0, 1) := gz_d tdX8_move_t0_ok 30 rfl
theorem dX8_move_57 : decode cX8_move 57 = .ok (.dup, 1) := gz_d tdX8_move_t0_ok 31 rfl
theorem dX8_move_58 : decode cX8_move 58 = .ok (.getfield 191, 3) := gz_d tdX8_move_t0_ok 32 rfl
theorem dX8_move_61 : decode cX8_move 61 = .ok (.iconst 1, 1) := gz_d tdX8_move_t0_ok 33 rfl
theorem dX8_move_62 : decode cX8_move 62 = .ok (.iadd, 1) := gz_d tdX8_move_t0_ok 34 rfl
theorem dX8_move_63 : decode cX8_move 63 = .ok (.putfield 191, 3) := gz_d tdX8_move_t0_ok 35 rfl
theorem dX8_move_66 : decode cX8_move 66 = .ok (.aload_n 0, 1) := gz_d tdX8_move_t0_ok 36 rfl
theorem dX8_move_67 : decode cX8_move 67 = .ok (.iconst 1, 1) := gz_d tdX8_move_t0_ok 37 rfl
theorem dX8_move_68 : decode cX8_move 68 = .ok (.aload_n 0, 1) := gz_d tdX8_move_t0_ok 38 rfl
theorem dX8_move_69 : decode cX8_move 69 = .ok (.getfield 185, 3) := gz_d tdX8_move_t0_ok 39 rfl
theorem dX8_move_72 : decode cX8_move 72 = .ok (.isub, 1) := gz_d tdX8_move_t0_ok 40 rfl
theorem dX8_move_73 : decode cX8_move 73 = .ok (.putfield 185, 3) := gz_d tdX8_move_t0_ok 41 rfl
theorem dX8_move_76 : decode cX8_move 76 = .ok (.iconst 0, 1) := gz_d tdX8_move_t0_ok 42 rfl
theorem dX8_move_77 : decode cX8_move 77 = .ok (.ireturn, 1) := gz_d tdX8_move_t0_ok 43 rfl
theorem dX8_move_78 : decode cX8_move 78 = .ok (.aload_n 0, 1) := gz_d tdX8_move_t0_ok 44 rfl
theorem dX8_move_79 : decode cX8_move 79 = .ok (.aload_n 0, 1) := gz_d tdX8_move_t0_ok 45 rfl
theorem dX8_move_80 : decode cX8_move 80 = .ok (.iconst 0, 1) := gz_d tdX8_move_t0_ok 46 rfl
theorem dX8_move_81 : decode cX8_move 81 = .ok (.aload_n 0, 1) := gz_d tdX8_move_t0_ok 47 rfl
theorem dX8_move_82 : decode cX8_move 82 = .ok (.getfield 185, 3) := gz_d tdX8_move_t0_ok 48 rfl
theorem dX8_move_85 : decode cX8_move 85 = .ok (.aload_n 0, 1) := gz_d tdX8_move_t0_ok 49 rfl
theorem dX8_move_86 : decode cX8_move 86 = .ok (.getfield 32, 3) := gz_d tdX8_move_t0_ok 50 rfl
theorem dX8_move_89 : decode cX8_move 89 = .ok (.iconst 0, 1) := gz_d tdX8_move_t0_ok 51 rfl
theorem dX8_move_90 : decode cX8_move 90 = .ok (.iaload, 1) := gz_d tdX8_move_t0_ok 52 rfl
theorem dX8_move_91 : decode cX8_move 91 = .ok (.aload_n 0, 1) := gz_d tdX8_move_t0_ok 53 rfl
theorem dX8_move_92 : decode cX8_move 92 = .ok (.getfield 32, 3) := gz_d tdX8_move_t0_ok 54 rfl
theorem dX8_move_95 : decode cX8_move 95 = .ok (.iconst 1, 1) := gz_d tdX8_move_t0_ok 55 rfl
theorem dX8_move_96 : decode cX8_move 96 = .ok (.iaload, 1) := gz_d tdX8_move_t0_ok 56 rfl
theorem dX8_move_97 : decode cX8_move 97 = .ok (.aload_n 0, 1) := gz_d tdX8_move_t0_ok 57 rfl
theorem dX8_move_98 : decode cX8_move 98 = .ok (.getfield 188, 3) := gz_d tdX8_move_t0_ok 58 rfl
theorem dX8_move_101 : decode cX8_move 101 = .ok (.invokevirtual 135, 3) := gz_d tdX8_move_t0_ok 59 rfl
def tdX8_move_t1 : List (Nat × Instr × Nat) := [(104, .ifCond .eq 7, 3), (107, .iconst 0, 1), (108, .goto 4, 3), (111, .iconst 1, 1), (112, .putfield 194, 3), (115, .aload_n 0, 1), (116, .dup, 1), (117, .getfield 197, 3), (120, .aload_n 0, 1), (121, .getfield 194, 3), (124, .ifCond .ne 7, 3), (127, .iconst 1, 1), (128, .goto 4, 3), (131, .iconst 0, 1), (132, .iadd, 1), (133, .putfield 197, 3), (136, .aload_n 0, 1), (137, .dup, 1), (138, .getfield 200, 3), (141, .aload_n 0, 1), (142, .getfield 194, 3), (145, .iadd, 1), (146, .putfield 200, 3), (149, .aload_n 0, 1), (150, .iconst (-1), 1), (151, .putfield 185, 3), (154, .aload_n 0, 1), (155, .getfield 194, 3), (158, .iconst 1, 1), (159, .iadd, 1), (160, .ireturn, 1)]
theorem tdX8_move_t1_ok : gz_dec cX8_move tdX8_move_t1 = true := by decide +kernel
theorem dX8_move_104 : decode cX8_move 104 = .ok (.ifCond .eq 7, 3) := gz_d tdX8_move_t1_ok 0 rfl
theorem dX8_move_107 : decode cX8_move 107 = .ok (.iconst 0, 1) := gz_d tdX8_move_t1_ok 1 rfl
theorem dX8_move_108 : decode cX8_move 108 = .ok (.goto 4, 3) := gz_d tdX8_move_t1_ok 2 rfl
theorem dX8_move_111 : decode cX8_move 111 = .ok (.iconst 1, 1) := gz_d tdX8_move_t1_ok 3 rfl
theorem dX8_move_112 : decode cX8_move 112 = .ok (.putfield 194, 3) := gz_d tdX8_move_t1_ok 4 rfl
theorem dX8_move_115 : decode cX8_move 115 = .ok (.aload_n 0, 1) := gz_d tdX8_move_t1_ok 5 rfl
theorem dX8_move_116 : decode cX8_move 116 = .ok (.dup, 1) := gz_d tdX8_move_t1_ok 6 rfl
theorem dX8_move_117 : decode cX8_move 117 = .ok (.getfield 197, 3) := gz_d tdX8_move_t1_ok 7 rfl
theorem dX8_move_120 : decode cX8_move 120 = .ok (.aload_n 0, 1) := gz_d tdX8_move_t1_ok 8 rfl
theorem dX8_move_121 : decode cX8_move 121 = .ok (.getfield 194, 3) := gz_d tdX8_move_t1_ok 9 rfl
theorem dX8_move_124 : decode cX8_move 124 = .ok (.ifCond .ne 7, 3) := gz_d tdX8_move_t1_ok 10 rfl
theorem dX8_move_127 : decode cX8_move 127 = .ok (.iconst 1, 1) := gz_d tdX8_move_t1_ok 11 rfl
theorem dX8_move_128 : decode cX8_move 128 = .ok (.goto 4, 3) := gz_d tdX8_move_t1_ok 12 rfl
theorem dX8_move_131 : decode cX8_move 131 = .ok (.iconst 0, 1) := gz_d tdX8_move_t1_ok 13 rfl
theorem dX8_move_132 : decode cX8_move 132 = .ok (.iadd, 1) := gz_d tdX8_move_t1_ok 14 rfl
theorem dX8_move_133 : decode cX8_move 133 = .ok (.putfield 197, 3) := gz_d tdX8_move_t1_ok 15 rfl
theorem dX8_move_136 : decode cX8_move 136 = .ok (.aload_n 0, 1) := gz_d tdX8_move_t1_ok 16 rfl
theorem dX8_move_137 : decode cX8_move 137 = .ok (.dup, 1) := gz_d tdX8_move_t1_ok 17 rfl
theorem dX8_move_138 : decode cX8_move 138 = .ok (.getfield 200, 3) := gz_d tdX8_move_t1_ok 18 rfl
theorem dX8_move_141 : decode cX8_move 141 = .ok (.aload_n 0, 1) := gz_d tdX8_move_t1_ok 19 rfl
theorem dX8_move_142 : decode cX8_move 142 = .ok (.getfield 194, 3) := gz_d tdX8_move_t1_ok 20 rfl
theorem dX8_move_145 : decode cX8_move 145 = .ok (.iadd, 1) := gz_d tdX8_move_t1_ok 21 rfl
theorem dX8_move_146 : decode cX8_move 146 = .ok (.putfield 200, 3) := gz_d tdX8_move_t1_ok 22 rfl
theorem dX8_move_149 : decode cX8_move 149 = .ok (.aload_n 0, 1) := gz_d tdX8_move_t1_ok 23 rfl
theorem dX8_move_150 : decode cX8_move 150 = .ok (.iconst (-1), 1) := gz_d tdX8_move_t1_ok 24 rfl
theorem dX8_move_151 : decode cX8_move 151 = .ok (.putfield 185, 3) := gz_d tdX8_move_t1_ok 25 rfl
theorem dX8_move_154 : decode cX8_move 154 = .ok (.aload_n 0, 1) := gz_d tdX8_move_t1_ok 26 rfl
theorem dX8_move_155 : decode cX8_move 155 = .ok (.getfield 194, 3) := gz_d tdX8_move_t1_ok 27 rfl
theorem dX8_move_158 : decode cX8_move 158 = .ok (.iconst 1, 1) := gz_d tdX8_move_t1_ok 28 rfl
theorem dX8_move_159 : decode cX8_move 159 = .ok (.iadd, 1) := gz_d tdX8_move_t1_ok 29 rfl
theorem dX8_move_160 : decode cX8_move 160 = .ok (.ireturn, 1) := gz_d tdX8_move_t1_ok 30 rfl
def tdX8_about_t0 : List (Nat × Instr × Nat) := [(0, .iload_n 1, 1), (1, .iconst 0, 1), (2, .iconst 3, 1), (3, .invokestatic 82, 3), (6, .ifCond .ne 6, 3), (9, .bipush (-2), 2), (11, .ireturn, 1), (12, .aload_n 0, 1), (13, .getfield 78, 3), (16, .ifCond .ne 8, 3), (19, .bipush (-3), 2), (21, .goto 42, 3), (24, .iload_n 1, 1), (25, .ifCond .ne 10, 3), (28, .aload_n 0, 1), (29, .getfield 185, 3), (32, .goto 31, 3), (35, .iload_n 1, 1), (36, .iconst 1, 1), (37, .if_icmp .ne 10, 3), (40, .aload_n 0, 1), (41, .getfield 188, 3), (44, .goto 19, 3), (47, .iload_n 1, 1), (48, .iconst 2, 1), (49, .if_icmp .ne 10, 3), (52, .aload_n 0, 1), (53, .getfield 191, 3), (56, .goto 7, 3), (59, .aload_n 0, 1), (60, .getfield 194, 3), (63, .ireturn, 1)]
theorem tdX8_about_t0_ok : gz_dec cX8_about tdX8_about_t0 = true := by decide +kernel
theorem dX8_about_0 : decode cX8_about 0 = .ok (.iload_n 1, 1) := gz_d tdX8_about_t0_ok 0 rfl
theorem dX8_about_1 : decode cX8_about 1 = .ok (.iconst 0, 1) := gz_d tdX8_about_t0_ok 1 rfl
theorem dX8_about_2 : decode cX8_about 2 = .ok (.iconst 3, 1) := gz_d tdX8_about_t0_ok 2 rfl
theorem dX8_about_3 : decode cX8_about 3 = .ok (.invokestatic 82, 3) := gz_d tdX8_about_t0_ok 3 rfl
theorem dX8_about_6 : decode cX8_about 6 = .ok (.ifCond .ne 6, 3) := gz_d tdX8_about_t0_ok 4 rfl
theorem dX8_about_9 : decode cX8_about 9 = .ok (.bipush (-2), 2) := gz_d tdX8_about_t0_ok 5 rfl
theorem dX8_about_11 : decode cX8_about 11 = .ok (.ireturn, 1) := gz_d tdX8_about_t0_ok 6 rfl
theorem dX8_about_12 : decode cX8_about 12 = .ok (.aload_n 0, 1) := gz_d tdX8_about_t0_ok 7 rfl
theorem dX8_about_13 : decode cX8_about 13 = .ok (.getfield 78, 3) := gz_d tdX8_about_t0_ok 8 rfl
theorem dX8_about_16 : decode cX8_about 16 = .ok (.ifCond .ne 8, 3) := gz_d tdX8_about_t0_ok 9 rfl
theorem dX8_about_19 : decode cX8_about 19 = .ok (.bipush (-3), 2) := gz_d tdX8_about_t0_ok 10 rfl
theorem dX8_about_21 : decode cX8_about 21 = .ok (.goto 42, 3) := gz_d tdX8_about_t0_ok 11 rfl
theorem dX8_about_24 : decode cX8_about 24 = .ok (.iload_n 1, 1) := gz_d tdX8_about_t0_ok 12 rfl
theorem dX8_about_25 : decode cX8_about 25 = .ok (.ifCond .ne 10, 3) := gz_d tdX8_about_t0_ok 13 rfl
theorem dX8_about_28 : decode cX8_about 28 = .ok (.aload_n 0, 1) := gz_d tdX8_about_t0_ok 14 rfl
theorem dX8_about_29 : decode cX8_about 29 = .ok (.getfield 185, 3) := gz_d tdX8_about_t0_ok 15 rfl
theorem dX8_about_32 : decode cX8_about 32 = .ok (.goto 31, 3) := gz_d tdX8_about_t0_ok 16 rfl
theorem dX8_about_35 : decode cX8_about 35 = .ok (.iload_n 1, 1) := gz_d tdX8_about_t0_ok 17 rfl
theorem dX8_about_36 : decode cX8_about 36 = .ok (.iconst 1, 1) := gz_d tdX8_about_t0_ok 18 rfl
theorem dX8_about_37 : decode cX8_about 37 = .ok (.if_icmp .ne 10, 3) := gz_d tdX8_about_t0_ok 19 rfl
theorem dX8_about_40 : decode cX8_about 40 = .ok (.aload_n 0, 1) := gz_d tdX8_about_t0_ok 20 rfl
theorem dX8_about_41 : decode cX8_about 41 = .ok (.getfield 188, 3) := gz_d tdX8_about_t0_ok 21 rfl
theorem dX8_about_44 : decode cX8_about 44 = .ok (.goto 19, 3) := gz_d tdX8_about_t0_ok 22 rfl
theorem dX8_about_47 : decode cX8_about 47 = .ok (.iload_n 1, 1) := gz_d tdX8_about_t0_ok 23 rfl
theorem dX8_about_48 : decode cX8_about 48 = .ok (.iconst 2, 1) := gz_d tdX8_about_t0_ok 24 rfl
theorem dX8_about_49 : decode cX8_about 49 = .ok (.if_icmp .ne 10, 3) := gz_d tdX8_about_t0_ok 25 rfl
theorem dX8_about_52 : decode cX8_about 52 = .ok (.aload_n 0, 1) := gz_d tdX8_about_t0_ok 26 rfl
theorem dX8_about_53 : decode cX8_about 53 = .ok (.getfield 191, 3) := gz_d tdX8_about_t0_ok 27 rfl
theorem dX8_about_56 : decode cX8_about 56 = .ok (.goto 7, 3) := gz_d tdX8_about_t0_ok 28 rfl
theorem dX8_about_59 : decode cX8_about 59 = .ok (.aload_n 0, 1) := gz_d tdX8_about_t0_ok 29 rfl
theorem dX8_about_60 : decode cX8_about 60 = .ok (.getfield 194, 3) := gz_d tdX8_about_t0_ok 30 rfl
theorem dX8_about_63 : decode cX8_about 63 = .ok (.ireturn, 1) := gz_d tdX8_about_t0_ok 31 rfl
def tdX8_count_t0 : List (Nat × Instr × Nat) := [(0, .iload_n 1, 1), (1, .tableswitch 86 0 6 #[43, 48, 53, 58, 71, 76, 81], 43), (44, .aload_n 0, 1), (45, .getfield 7, 3), (48, .ireturn, 1), (49, .aload_n 0, 1), (50, .getfield 13, 3), (53, .ireturn, 1), (54, .aload_n 0, 1), (55, .getfield 16, 3), (58, .ireturn, 1), (59, .aload_n 0, 1), (60, .getfield 86, 3), (63, .ifCond .eq 7, 3), (66, .iconst 1, 1), (67, .goto 4, 3), (70, .iconst 0, 1), (71, .ireturn, 1), (72, .aload_n 0, 1), (73, .invokevirtual 89, 3), (76, .ireturn, 1), (77, .aload_n 0, 1), (78, .getfield 197, 3), (81, .ireturn, 1), (82, .aload_n 0, 1), (83, .getfield 200, 3), (86, .ireturn, 1), (87, .bipush (-2), 2), (89, .ireturn, 1)]
theorem tdX8_count_t0_ok : gz_dec cX8_count tdX8_count_t0 = true := by decide +kernel
theorem dX8_count_0 : decode cX8_count 0 = .ok (.iload_n 1, 1) := gz_d tdX8_count_t0_ok 0 rfl
theorem dX8_count_1 : decode cX8_count 1 = .ok (.tableswitch 86 0 6 #[43, 48, 53, 58, 71, 76, 81], 43) := gz_d tdX8_count_t0_ok 1 rfl
theorem dX8_count_44 : decode cX8_count 44 = .ok (.aload_n 0, 1) := gz_d tdX8_count_t0_ok 2 rfl
theorem dX8_count_45 : decode cX8_count 45 = .ok (.getfield 7, 3) := gz_d tdX8_count_t0_ok 3 rfl
theorem dX8_count_48 : decode cX8_count 48 = .ok (.ireturn, 1) := gz_d tdX8_count_t0_ok 4 rfl
theorem dX8_count_49 : decode cX8_count 49 = .ok (.aload_n 0, 1) := gz_d tdX8_count_t0_ok 5 rfl
theorem dX8_count_50 : decode cX8_count 50 = .ok (.getfield 13, 3) := gz_d tdX8_count_t0_ok 6 rfl
theorem dX8_count_53 : decode cX8_count 53 = .ok (.ireturn, 1) := gz_d tdX8_count_t0_ok 7 rfl
theorem dX8_count_54 : decode cX8_count 54 = .ok (.aload_n 0, 1) := gz_d tdX8_count_t0_ok 8 rfl
theorem dX8_count_55 : decode cX8_count 55 = .ok (.getfield 16, 3) := gz_d tdX8_count_t0_ok 9 rfl
theorem dX8_count_58 : decode cX8_count 58 = .ok (.ireturn, 1) := gz_d tdX8_count_t0_ok 10 rfl
theorem dX8_count_59 : decode cX8_count 59 = .ok (.aload_n 0, 1) := gz_d tdX8_count_t0_ok 11 rfl
theorem dX8_count_60 : decode cX8_count 60 = .ok (.getfield 86, 3) := gz_d tdX8_count_t0_ok 12 rfl
theorem dX8_count_63 : decode cX8_count 63 = .ok (.ifCond .eq 7, 3) := gz_d tdX8_count_t0_ok 13 rfl
theorem dX8_count_66 : decode cX8_count 66 = .ok (.iconst 1, 1) := gz_d tdX8_count_t0_ok 14 rfl
theorem dX8_count_67 : decode cX8_count 67 = .ok (.goto 4, 3) := gz_d tdX8_count_t0_ok 15 rfl
theorem dX8_count_70 : decode cX8_count 70 = .ok (.iconst 0, 1) := gz_d tdX8_count_t0_ok 16 rfl
theorem dX8_count_71 : decode cX8_count 71 = .ok (.ireturn, 1) := gz_d tdX8_count_t0_ok 17 rfl
theorem dX8_count_72 : decode cX8_count 72 = .ok (.aload_n 0, 1) := gz_d tdX8_count_t0_ok 18 rfl
theorem dX8_count_73 : decode cX8_count 73 = .ok (.invokevirtual 89, 3) := gz_d tdX8_count_t0_ok 19 rfl
theorem dX8_count_76 : decode cX8_count 76 = .ok (.ireturn, 1) := gz_d tdX8_count_t0_ok 20 rfl
theorem dX8_count_77 : decode cX8_count 77 = .ok (.aload_n 0, 1) := gz_d tdX8_count_t0_ok 21 rfl
theorem dX8_count_78 : decode cX8_count 78 = .ok (.getfield 197, 3) := gz_d tdX8_count_t0_ok 22 rfl
theorem dX8_count_81 : decode cX8_count 81 = .ok (.ireturn, 1) := gz_d tdX8_count_t0_ok 23 rfl
theorem dX8_count_82 : decode cX8_count 82 = .ok (.aload_n 0, 1) := gz_d tdX8_count_t0_ok 24 rfl
theorem dX8_count_83 : decode cX8_count 83 = .ok (.getfield 200, 3) := gz_d tdX8_count_t0_ok 25 rfl
theorem dX8_count_86 : decode cX8_count 86 = .ok (.ireturn, 1) := gz_d tdX8_count_t0_ok 26 rfl
theorem dX8_count_87 : decode cX8_count 87 = .ok (.bipush (-2), 2) := gz_d tdX8_count_t0_ok 27 rfl
theorem dX8_count_89 : decode cX8_count 89 = .ok (.ireturn, 1) := gz_d tdX8_count_t0_ok 28 rfl
def tdX8_digest_t0 : List (Nat × Instr × Nat) := [(0, .ldc2_w 203, 3), (3, .lstore_n 1, 1), (4, .iconst 0, 1), (5, .istore_n 3, 1), (6, .iload_n 3, 1), (7, .bipush 7, 2), (9, .if_icmp .ge 22, 3), (12, .ldc2_w 205, 3), (15, .lload_n 1, 1), (16, .lmul, 1), (17, .aload_n 0, 1), (18, .iload_n 3, 1), (19, .invokevirtual 207, 3), (22, .i2l, 1), (23, .ladd, 1), (24, .lstore_n 1, 1), (25, .iinc 3 1, 3), (28, .goto (-22), 3), (31, .iconst 0, 1), (32, .istore_n 3, 1), (33, .iload_n 3, 1), (34, .iconst 4, 1), (35, .if_icmp .ge 122, 3), (38, .iconst 0, 1), (39, .istore 4, 2), (41, .iload 4, 2), (43, .iconst 2, 1), (44, .if_icmp .ge 107, 3), (47, .iconst 0, 1), (48, .istore 5, 2), (50, .iload 5, 2), (52, .aload_n 0, 1), (53, .getfield 23, 3), (56, .iload 4, 2), (58, .iaload, 1), (59, .if_icmp .ge 86, 3), (62, .iconst (-1), 1), (63, .istore 6, 2), (65, .iload 6, 2), (67, .aload_n 0, 1), (68, .invokevirtual 89, 3), (71, .if_icmp .ge 68, 3), (74, .iconst (-1), 1), (75, .istore 7, 2), (77, .iload 7, 2), (79, .aload_n 0, 1), (80, .invokevirtual 89, 3), (83, .if_icmp .ge 50, 3), (86, .aload_n 0, 1), (87, .iload 6, 2), (89, .iload 7, 2), (91, .invokevirtual 120, 3), (94, .ifCond .eq 31, 3), (97, .ldc2_w 205, 3), (100, .lload_n 1, 1), (101, .lmul, 1), (102, .aload_n 0, 1), (103, .getfield 29, 3), (106, .aload_n 0, 1), (107, .iload_n 3, 1)]
theorem tdX8_digest_t0_ok : gz_dec cX8_digest tdX8_digest_t0 = true := by decide +kernel
theorem dX8_digest_0 : decode cX8_digest 0 = .ok (.ldc2_w 203, 3) := gz_d tdX8_digest_t0_ok 0 rfl
theorem dX8_digest_3 : decode cX8_digest 3 = .ok (.lstore_n 1, 1) := gz_d tdX8_digest_t0_ok 1 rfl
theorem dX8_digest_4 : decode cX8_digest 4 = .ok (.iconst 0, 1) := gz_d tdX8_digest_t0_ok 2 rfl
theorem dX8_digest_5 : decode cX8_digest 5 = .ok (.istore_n 3, 1) := gz_d tdX8_digest_t0_ok 3 rfl
theorem dX8_digest_6 : decode cX8_digest 6 = .ok (.iload_n 3, 1) := gz_d tdX8_digest_t0_ok 4 rfl
theorem dX8_digest_7 : decode cX8_digest 7 = .ok (.bipush 7, 2) := gz_d tdX8_digest_t0_ok 5 rfl
theorem dX8_digest_9 : decode cX8_digest 9 = .ok (.if_icmp .ge 22, 3) := gz_d tdX8_digest_t0_ok 6 rfl
theorem dX8_digest_12 : decode cX8_digest 12 = .ok (.ldc2_w 205, 3) := gz_d tdX8_digest_t0_ok 7 rfl
theorem dX8_digest_15 : decode cX8_digest 15 = .ok (.lload_n 1, 1) := gz_d tdX8_digest_t0_ok 8 rfl
theorem dX8_digest_16 : decode cX8_digest 16 = .ok (.lmul, 1) := gz_d tdX8_digest_t0_ok 9 rfl
theorem dX8_digest_17 : decode cX8_digest 17 = .ok (.aload_n 0, 1) := gz_d tdX8_digest_t0_ok 10 rfl
theorem dX8_digest_18 : decode cX8_digest 18 = .ok (.iload_n 3, 1) := gz_d tdX8_digest_t0_ok 11 rfl
theorem dX8_digest_19 : decode cX8_digest 19 = .ok (.invokevirtual 207, 3) := gz_d tdX8_digest_t0_ok 12 rfl
theorem dX8_digest_22 : decode cX8_digest 22 = .ok (.i2l, 1) := gz_d tdX8_digest_t0_ok 13 rfl
theorem dX8_digest_23 : decode cX8_digest 23 = .ok (.ladd, 1) := gz_d tdX8_digest_t0_ok 14 rfl
theorem dX8_digest_24 : decode cX8_digest 24 = .ok (.lstore_n 1, 1) := gz_d tdX8_digest_t0_ok 15 rfl
theorem dX8_digest_25 : decode cX8_digest 25 = .ok (.iinc 3 1, 3) := gz_d tdX8_digest_t0_ok 16 rfl
theorem dX8_digest_28 : decode cX8_digest 28 = .ok (.goto (-22), 3) := gz_d tdX8_digest_t0_ok 17 rfl
theorem dX8_digest_31 : decode cX8_digest 31 = .ok (.iconst 0, 1) := gz_d tdX8_digest_t0_ok 18 rfl
theorem dX8_digest_32 : decode cX8_digest 32 = .ok (.istore_n 3, 1) := gz_d tdX8_digest_t0_ok 19 rfl
theorem dX8_digest_33 : decode cX8_digest 33 = .ok (.iload_n 3, 1) := gz_d tdX8_digest_t0_ok 20 rfl
theorem dX8_digest_34 : decode cX8_digest 34 = .ok (.iconst 4, 1) := gz_d tdX8_digest_t0_ok 21 rfl
theorem dX8_digest_35 : decode cX8_digest 35 = .ok (.if_icmp .ge 122, 3) := gz_d tdX8_digest_t0_ok 22 rfl
theorem dX8_digest_38 : decode cX8_digest 38 = .ok (.iconst 0, 1) := gz_d tdX8_digest_t0_ok 23 rfl
theorem dX8_digest_39 : decode cX8_digest 39 = .ok (.istore 4, 2) := gz_d tdX8_digest_t0_ok 24 rfl
theorem dX8_digest_41 : decode cX8_digest 41 = .ok (.iload 4, 2) := gz_d tdX8_digest_t0_ok 25 rfl
theorem dX8_digest_43 : decode cX8_digest 43 = .ok (.iconst 2, 1) := gz_d tdX8_digest_t0_ok 26 rfl
theorem dX8_digest_44 : decode cX8_digest 44 = .ok (.if_icmp .ge 107, 3) := gz_d tdX8_digest_t0_ok 27 rfl
theorem dX8_digest_47 : decode cX8_digest 47 = .ok (.iconst 0, 1) := gz_d tdX8_digest_t0_ok 28 rfl
theorem dX8_digest_48 : decode cX8_digest 48 = .ok (.istore 5, 2) := gz_d tdX8_digest_t0_ok 29 rfl
theorem dX8_digest_50 : decode cX8_digest 50 = .ok (.iload 5, 2) := gz_d tdX8_digest_t0_ok 30 rfl
theorem dX8_digest_52 : decode cX8_digest 52 = .ok (.aload_n 0, 1) := gz_d tdX8_digest_t0_ok 31 rfl
theorem dX8_digest_53 : decode cX8_digest 53 = .ok (.getfield 23, 3) := gz_d tdX8_digest_t0_ok 32 rfl
theorem dX8_digest_56 : decode cX8_digest 56 = .ok (.iload 4, 2) := gz_d tdX8_digest_t0_ok 33 rfl
theorem dX8_digest_58 : decode cX8_digest 58 = .ok (.iaload, 1) := gz_d tdX8_digest_t0_ok 34 rfl
theorem dX8_digest_59 : decode cX8_digest 59 = .ok (.if_icmp .ge 86, 3) := gz_d tdX8_digest_t0_ok 35 rfl
theorem dX8_digest_62 : decode cX8_digest 62 = .ok (.iconst (-1), 1) := gz_d tdX8_digest_t0_ok 36 rfl
theorem dX8_digest_63 : decode cX8_digest 63 = .ok (.istore 6, 2) := gz_d tdX8_digest_t0_ok 37 rfl
theorem dX8_digest_65 : decode cX8_digest 65 = .ok (.iload 6, 2) := gz_d tdX8_digest_t0_ok 38 rfl
theorem dX8_digest_67 : decode cX8_digest 67 = .ok (.aload_n 0, 1) := gz_d tdX8_digest_t0_ok 39 rfl
theorem dX8_digest_68 : decode cX8_digest 68 = .ok (.invokevirtual 89, 3) := gz_d tdX8_digest_t0_ok 40 rfl
theorem dX8_digest_71 : decode cX8_digest 71 = .ok (.if_icmp .ge 68, 3) := gz_d tdX8_digest_t0_ok 41 rfl
theorem dX8_digest_74 : decode cX8_digest 74 = .ok (.iconst (-1), 1) := gz_d tdX8_digest_t0_ok 42 rfl
theorem dX8_digest_75 : decode cX8_digest 75 = .ok (.istore 7, 2) := gz_d tdX8_digest_t0_ok 43 rfl
theorem dX8_digest_77 : decode cX8_digest 77 = .ok (.iload 7, 2) := gz_d tdX8_digest_t0_ok 44 rfl
theorem dX8_digest_79 : decode cX8_digest 79 = .ok (.aload_n 0, 1) := gz_d tdX8_digest_t0_ok 45 rfl
theorem dX8_digest_80 : decode cX8_digest 80 = .ok (.invokevirtual 89, 3) := gz_d tdX8_digest_t0_ok 46 rfl
theorem dX8_digest_83 : decode cX8_digest 83 = .ok (.if_icmp .ge 50, 3) := gz_d tdX8_digest_t0_ok 47 rfl
theorem dX8_digest_86 : decode cX8_digest 86 = .ok (.aload_n 0, 1) := gz_d tdX8_digest_t0_ok 48 rfl
theorem dX8_digest_87 : decode cX8_digest 87 = .ok (.iload 6, 2) := gz_d tdX8_digest_t0_ok 49 rfl
theorem dX8_digest_89 : decode cX8_digest 89 = .ok (.iload 7, 2) := gz_d tdX8_digest_t0_ok 50 rfl
theorem dX8_digest_91 : decode cX8_digest 91 = .ok (.invokevirtual 120, 3) := gz_d tdX8_digest_t0_ok 51 rfl
theorem dX8_digest_94 : decode cX8_digest 94 = .ok (.ifCond .eq 31, 3) := gz_d tdX8_digest_t0_ok 52 rfl
theorem dX8_digest_97 : decode cX8_digest 97 = .ok (.ldc2_w 205, 3) := gz_d tdX8_digest_t0_ok 53 rfl
theorem dX8_digest_100 : decode cX8_digest 100 = .ok (.lload_n 1, 1) := gz_d tdX8_digest_t0_ok 54 rfl
theorem dX8_digest_101 : decode cX8_digest 101 = .ok (.lmul, 1) := gz_d tdX8_digest_t0_ok 55 rfl
theorem dX8_digest_102 : decode cX8_digest 102 = .ok (.aload_n 0, 1) := gz_d tdX8_digest_t0_ok 56 rfl
theorem dX8_digest_103 : decode cX8_digest 103 = .ok (.getfield 29, 3) := gz_d tdX8_digest_t0_ok 57 rfl
theorem dX8_digest_106 : decode cX8_digest 106 = .ok (.aload_n 0, 1) := gz_d tdX8_digest_t0_ok 58 rfl
theorem dX8_digest_107 : decode cX8_digest 107 = .ok (.iload_n 3, 1) := gz_d tdX8_digest_t0_ok 59 rfl
def tdX8_digest_t1 : List (Nat × Instr × Nat) := [(108, .iload 4, 2), (110, .iload 5, 2), (112, .iload 6, 2), (114, .iload 7, 2), (116, .invokevirtual 123, 3), (119, .iaload, 1), (120, .i2l, 1), (121, .ladd, 1), (122, .goto 4, 3), (125, .lload_n 1, 1), (126, .lstore_n 1, 1), (127, .iinc 7 1, 3), (130, .goto (-53), 3), (133, .iinc 6 1, 3), (136, .goto (-71), 3), (139, .iinc 5 1, 3), (142, .goto (-92), 3), (145, .iinc 4 1, 3), (148, .goto (-107), 3), (151, .iinc 3 1, 3), (154, .goto (-121), 3), (157, .aload_n 0, 1), (158, .getfield 78, 3), (161, .ifCond .eq 57, 3), (164, .iconst 0, 1), (165, .istore_n 3, 1), (166, .iload_n 3, 1), (167, .iconst 4, 1), (168, .if_icmp .ge 22, 3), (171, .ldc2_w 205, 3), (174, .lload_n 1, 1), (175, .lmul, 1), (176, .aload_n 0, 1), (177, .iload_n 3, 1), (178, .invokevirtual 210, 3), (181, .i2l, 1), (182, .ladd, 1), (183, .lstore_n 1, 1), (184, .iinc 3 1, 3), (187, .goto (-21), 3), (190, .ldc2_w 205, 3), (193, .lload_n 1, 1), (194, .lmul, 1), (195, .aload_n 0, 1), (196, .getfield 32, 3), (199, .iconst 0, 1), (200, .iaload, 1), (201, .i2l, 1), (202, .ladd, 1), (203, .lstore_n 1, 1), (204, .ldc2_w 205, 3), (207, .lload_n 1, 1), (208, .lmul, 1), (209, .aload_n 0, 1), (210, .getfield 32, 3), (213, .iconst 1, 1), (214, .iaload, 1), (215, .i2l, 1), (216, .ladd, 1), (217, .lstore_n 1, 1)]
theorem tdX8_digest_t1_ok : gz_dec cX8_digest tdX8_digest_t1 = true := by decide +kernel
theorem dX8_digest_108 : decode cX8_digest 108 = .ok (.iload 4, 2) := gz_d tdX8_digest_t1_ok 0 rfl
theorem dX8_digest_110 : decode cX8_digest 110 = .ok (.iload 5, 2) := gz_d tdX8_digest_t1_ok 1 rfl
theorem dX8_digest_112 : decode cX8_digest 112 = .ok (.iload 6, 2) := gz_d tdX8_digest_t1_ok 2 rfl
theorem dX8_digest_114 : decode cX8_digest 114 = .ok (.iload 7, 2) := gz_d tdX8_digest_t1_ok 3 rfl
theorem dX8_digest_116 : decode cX8_digest 116 = .ok (.invokevirtual 123, 3) := gz_d tdX8_digest_t1_ok 4 rfl
theorem dX8_digest_119 : decode cX8_digest 119 = .ok (.iaload, 1) := gz_d tdX8_digest_t1_ok 5 rfl
theorem dX8_digest_120 : decode cX8_digest 120 = .ok (.i2l, 1) := gz_d tdX8_digest_t1_ok 6 rfl
theorem dX8_digest_121 : decode cX8_digest 121 = .ok (.ladd, 1) := gz_d tdX8_digest_t1_ok 7 rfl
theorem dX8_digest_122 : decode cX8_digest 122 = .ok (.goto 4, 3) := gz_d tdX8_digest_t1_ok 8 rfl
theorem dX8_digest_125 : decode cX8_digest 125 = .ok (.lload_n 1, 1) := gz_d tdX8_digest_t1_ok 9 rfl
theorem dX8_digest_126 : decode cX8_digest 126 = .ok (.lstore_n 1, 1) := gz_d tdX8_digest_t1_ok 10 rfl
theorem dX8_digest_127 : decode cX8_digest 127 = .ok (.iinc 7 1, 3) := gz_d tdX8_digest_t1_ok 11 rfl
theorem dX8_digest_130 : decode cX8_digest 130 = .ok (.goto (-53), 3) := gz_d tdX8_digest_t1_ok 12 rfl
theorem dX8_digest_133 : decode cX8_digest 133 = .ok (.iinc 6 1, 3) := gz_d tdX8_digest_t1_ok 13 rfl
theorem dX8_digest_136 : decode cX8_digest 136 = .ok (.goto (-71), 3) := gz_d tdX8_digest_t1_ok 14 rfl
theorem dX8_digest_139 : decode cX8_digest 139 = .ok (.iinc 5 1, 3) := gz_d tdX8_digest_t1_ok 15 rfl
theorem dX8_digest_142 : decode cX8_digest 142 = .ok (.goto (-92), 3) := gz_d tdX8_digest_t1_ok 16 rfl
theorem dX8_digest_145 : decode cX8_digest 145 = .ok (.iinc 4 1, 3) := gz_d tdX8_digest_t1_ok 17 rfl
theorem dX8_digest_148 : decode cX8_digest 148 = .ok (.goto (-107), 3) := gz_d tdX8_digest_t1_ok 18 rfl
theorem dX8_digest_151 : decode cX8_digest 151 = .ok (.iinc 3 1, 3) := gz_d tdX8_digest_t1_ok 19 rfl
theorem dX8_digest_154 : decode cX8_digest 154 = .ok (.goto (-121), 3) := gz_d tdX8_digest_t1_ok 20 rfl
theorem dX8_digest_157 : decode cX8_digest 157 = .ok (.aload_n 0, 1) := gz_d tdX8_digest_t1_ok 21 rfl
theorem dX8_digest_158 : decode cX8_digest 158 = .ok (.getfield 78, 3) := gz_d tdX8_digest_t1_ok 22 rfl
theorem dX8_digest_161 : decode cX8_digest 161 = .ok (.ifCond .eq 57, 3) := gz_d tdX8_digest_t1_ok 23 rfl
theorem dX8_digest_164 : decode cX8_digest 164 = .ok (.iconst 0, 1) := gz_d tdX8_digest_t1_ok 24 rfl
theorem dX8_digest_165 : decode cX8_digest 165 = .ok (.istore_n 3, 1) := gz_d tdX8_digest_t1_ok 25 rfl
theorem dX8_digest_166 : decode cX8_digest 166 = .ok (.iload_n 3, 1) := gz_d tdX8_digest_t1_ok 26 rfl
theorem dX8_digest_167 : decode cX8_digest 167 = .ok (.iconst 4, 1) := gz_d tdX8_digest_t1_ok 27 rfl
theorem dX8_digest_168 : decode cX8_digest 168 = .ok (.if_icmp .ge 22, 3) := gz_d tdX8_digest_t1_ok 28 rfl
theorem dX8_digest_171 : decode cX8_digest 171 = .ok (.ldc2_w 205, 3) := gz_d tdX8_digest_t1_ok 29 rfl
theorem dX8_digest_174 : decode cX8_digest 174 = .ok (.lload_n 1, 1) := gz_d tdX8_digest_t1_ok 30 rfl
theorem dX8_digest_175 : decode cX8_digest 175 = .ok (.lmul, 1) := gz_d tdX8_digest_t1_ok 31 rfl
theorem dX8_digest_176 : decode cX8_digest 176 = .ok (.aload_n 0, 1) := gz_d tdX8_digest_t1_ok 32 rfl
theorem dX8_digest_177 : decode cX8_digest 177 = .ok (.iload_n 3, 1) := gz_d tdX8_digest_t1_ok 33 rfl
theorem dX8_digest_178 : decode cX8_digest 178 = .ok (.invokevirtual 210, 3) := gz_d tdX8_digest_t1_ok 34 rfl
theorem dX8_digest_181 : decode cX8_digest 181 = .ok (.i2l, 1) := gz_d tdX8_digest_t1_ok 35 rfl
theorem dX8_digest_182 : decode cX8_digest 182 = .ok (.ladd, 1) := gz_d tdX8_digest_t1_ok 36 rfl
theorem dX8_digest_183 : decode cX8_digest 183 = .ok (.lstore_n 1, 1) := gz_d tdX8_digest_t1_ok 37 rfl
theorem dX8_digest_184 : decode cX8_digest 184 = .ok (.iinc 3 1, 3) := gz_d tdX8_digest_t1_ok 38 rfl
theorem dX8_digest_187 : decode cX8_digest 187 = .ok (.goto (-21), 3) := gz_d tdX8_digest_t1_ok 39 rfl
theorem dX8_digest_190 : decode cX8_digest 190 = .ok (.ldc2_w 205, 3) := gz_d tdX8_digest_t1_ok 40 rfl
theorem dX8_digest_193 : decode cX8_digest 193 = .ok (.lload_n 1, 1) := gz_d tdX8_digest_t1_ok 41 rfl
theorem dX8_digest_194 : decode cX8_digest 194 = .ok (.lmul, 1) := gz_d tdX8_digest_t1_ok 42 rfl
theorem dX8_digest_195 : decode cX8_digest 195 = .ok (.aload_n 0, 1) := gz_d tdX8_digest_t1_ok 43 rfl
theorem dX8_digest_196 : decode cX8_digest 196 = .ok (.getfield 32, 3) := gz_d tdX8_digest_t1_ok 44 rfl
theorem dX8_digest_199 : decode cX8_digest 199 = .ok (.iconst 0, 1) := gz_d tdX8_digest_t1_ok 45 rfl
theorem dX8_digest_200 : decode cX8_digest 200 = .ok (.iaload, 1) := gz_d tdX8_digest_t1_ok 46 rfl
theorem dX8_digest_201 : decode cX8_digest 201 = .ok (.i2l, 1) := gz_d tdX8_digest_t1_ok 47 rfl
theorem dX8_digest_202 : decode cX8_digest 202 = .ok (.ladd, 1) := gz_d tdX8_digest_t1_ok 48 rfl
theorem dX8_digest_203 : decode cX8_digest 203 = .ok (.lstore_n 1, 1) := gz_d tdX8_digest_t1_ok 49 rfl
theorem dX8_digest_204 : decode cX8_digest 204 = .ok (.ldc2_w 205, 3) := gz_d tdX8_digest_t1_ok 50 rfl
theorem dX8_digest_207 : decode cX8_digest 207 = .ok (.lload_n 1, 1) := gz_d tdX8_digest_t1_ok 51 rfl
theorem dX8_digest_208 : decode cX8_digest 208 = .ok (.lmul, 1) := gz_d tdX8_digest_t1_ok 52 rfl
theorem dX8_digest_209 : decode cX8_digest 209 = .ok (.aload_n 0, 1) := gz_d tdX8_digest_t1_ok 53 rfl
theorem dX8_digest_210 : decode cX8_digest 210 = .ok (.getfield 32, 3) := gz_d tdX8_digest_t1_ok 54 rfl
theorem dX8_digest_213 : decode cX8_digest 213 = .ok (.iconst 1, 1) := gz_d tdX8_digest_t1_ok 55 rfl
theorem dX8_digest_214 : decode cX8_digest 214 = .ok (.iaload, 1) := gz_d tdX8_digest_t1_ok 56 rfl
theorem dX8_digest_215 : decode cX8_digest 215 = .ok (.i2l, 1) := gz_d tdX8_digest_t1_ok 57 rfl
theorem dX8_digest_216 : decode cX8_digest 216 = .ok (.ladd, 1) := gz_d tdX8_digest_t1_ok 58 rfl
theorem dX8_digest_217 : decode cX8_digest 217 = .ok (.lstore_n 1, 1) := gz_d tdX8_digest_t1_ok 59 rfl
def tdX8_digest_t2 : List (Nat × Instr × Nat) := [(218, .lload_n 1, 1), (219, .lreturn, 1)]
theorem tdX8_digest_t2_ok : gz_dec cX8_digest tdX8_digest_t2 = true := by decide +kernel
theorem dX8_digest_218 : decode cX8_digest 218 = .ok (.lload_n 1, 1) := gz_d tdX8_digest_t2_ok 0 rfl
theorem dX8_digest_219 : decode cX8_digest 219 = .ok (.lreturn, 1) := gz_d tdX8_digest_t2_ok 1 rfl
def tdJxe99ae_isNaN_b9ae7_t0 : List (Nat × Instr × Nat) := [(0, .dload_n 0, 1), (1, .dload_n 0, 1), (2, .dcmp .l, 1), (3, .ifCond .eq 7, 3), (6, .iconst 1, 1), (7, .goto 4, 3), (10, .iconst 0, 1), (11, .ireturn, 1)]
theorem tdJxe99ae_isNaN_b9ae7_t0_ok : gz_dec cJxe99ae_isNaN_b9ae7 tdJxe99ae_isNaN_b9ae7_t0 = true := by decide +kernel
theorem dJxe99ae_isNaN_b9ae7_0 : decode cJxe99ae_isNaN_b9ae7 0 = .ok (.dload_n 0, 1) := gz_d tdJxe99ae_isNaN_b9ae7_t0_ok 0 rfl
theorem dJxe99ae_isNaN_b9ae7_1 : decode cJxe99ae_isNaN_b9ae7 1 = .ok (.dload_n 0, 1) := gz_d tdJxe99ae_isNaN_b9ae7_t0_ok 1 rfl
theorem dJxe99ae_isNaN_b9ae7_2 : decode cJxe99ae_isNaN_b9ae7 2 = .ok (.dcmp .l, 1) := gz_d tdJxe99ae_isNaN_b9ae7_t0_ok 2 rfl
theorem dJxe99ae_isNaN_b9ae7_3 : decode cJxe99ae_isNaN_b9ae7 3 = .ok (.ifCond .eq 7, 3) := gz_d tdJxe99ae_isNaN_b9ae7_t0_ok 3 rfl
theorem dJxe99ae_isNaN_b9ae7_6 : decode cJxe99ae_isNaN_b9ae7 6 = .ok (.iconst 1, 1) := gz_d tdJxe99ae_isNaN_b9ae7_t0_ok 4 rfl
theorem dJxe99ae_isNaN_b9ae7_7 : decode cJxe99ae_isNaN_b9ae7 7 = .ok (.goto 4, 3) := gz_d tdJxe99ae_isNaN_b9ae7_t0_ok 5 rfl
theorem dJxe99ae_isNaN_b9ae7_10 : decode cJxe99ae_isNaN_b9ae7 10 = .ok (.iconst 0, 1) := gz_d tdJxe99ae_isNaN_b9ae7_t0_ok 6 rfl
theorem dJxe99ae_isNaN_b9ae7_11 : decode cJxe99ae_isNaN_b9ae7 11 = .ok (.ireturn, 1) := gz_d tdJxe99ae_isNaN_b9ae7_t0_ok 7 rfl
def tdJxe99ae_doubleToLongBits_ccdee_t0 : List (Nat × Instr × Nat) := [(0, .dload_n 0, 1), (1, .invokestatic 122, 3), (4, .ifCond .ne 8, 3), (7, .dload_n 0, 1), (8, .invokestatic 134, 3), (11, .lreturn, 1), (12, .ldc2_w 137, 3), (15, .lreturn, 1)]
theorem tdJxe99ae_doubleToLongBits_ccdee_t0_ok : gz_dec cJxe99ae_doubleToLongBits_ccdee tdJxe99ae_doubleToLongBits_ccdee_t0 = true := by decide +kernel
theorem dJxe99ae_doubleToLongBits_ccdee_0 : decode cJxe99ae_doubleToLongBits_ccdee 0 = .ok (.dload_n 0, 1) := gz_d tdJxe99ae_doubleToLongBits_ccdee_t0_ok 0 rfl
theorem dJxe99ae_doubleToLongBits_ccdee_1 : decode cJxe99ae_doubleToLongBits_ccdee 1 = .ok (.invokestatic 122, 3) := gz_d tdJxe99ae_doubleToLongBits_ccdee_t0_ok 1 rfl
theorem dJxe99ae_doubleToLongBits_ccdee_4 : decode cJxe99ae_doubleToLongBits_ccdee 4 = .ok (.ifCond .ne 8, 3) := gz_d tdJxe99ae_doubleToLongBits_ccdee_t0_ok 2 rfl
theorem dJxe99ae_doubleToLongBits_ccdee_7 : decode cJxe99ae_doubleToLongBits_ccdee 7 = .ok (.dload_n 0, 1) := gz_d tdJxe99ae_doubleToLongBits_ccdee_t0_ok 3 rfl
theorem dJxe99ae_doubleToLongBits_ccdee_8 : decode cJxe99ae_doubleToLongBits_ccdee 8 = .ok (.invokestatic 134, 3) := gz_d tdJxe99ae_doubleToLongBits_ccdee_t0_ok 4 rfl
theorem dJxe99ae_doubleToLongBits_ccdee_11 : decode cJxe99ae_doubleToLongBits_ccdee 11 = .ok (.lreturn, 1) := gz_d tdJxe99ae_doubleToLongBits_ccdee_t0_ok 5 rfl
theorem dJxe99ae_doubleToLongBits_ccdee_12 : decode cJxe99ae_doubleToLongBits_ccdee 12 = .ok (.ldc2_w 137, 3) := gz_d tdJxe99ae_doubleToLongBits_ccdee_t0_ok 6 rfl
theorem dJxe99ae_doubleToLongBits_ccdee_15 : decode cJxe99ae_doubleToLongBits_ccdee 15 = .ok (.lreturn, 1) := gz_d tdJxe99ae_doubleToLongBits_ccdee_t0_ok 7 rfl
def tdJ7_fill_53178_t0 : List (Nat × Instr × Nat) := [(0, .iconst 0, 1), (1, .istore_n 2, 1), (2, .aload_n 0, 1), (3, .arraylength, 1), (4, .istore_n 3, 1), (5, .iload_n 2, 1), (6, .iload_n 3, 1), (7, .if_icmp .ge 13, 3), (10, .aload_n 0, 1), (11, .iload_n 2, 1), (12, .iload_n 1, 1), (13, .iastore, 1), (14, .iinc 2 1, 3), (17, .goto (-12), 3), (20, .return_, 1)]
theorem tdJ7_fill_53178_t0_ok : gz_dec cJ7_fill_53178 tdJ7_fill_53178_t0 = true := by decide +kernel
theorem dJ7_fill_53178_0 : decode cJ7_fill_53178 0 = .ok (.iconst 0, 1) := gz_d tdJ7_fill_53178_t0_ok 0 rfl
theorem dJ7_fill_53178_1 : decode cJ7_fill_53178 1 = .ok (.istore_n 2, 1) := gz_d tdJ7_fill_53178_t0_ok 1 rfl
theorem dJ7_fill_53178_2 : decode cJ7_fill_53178 2 = .ok (.aload_n 0, 1) := gz_d tdJ7_fill_53178_t0_ok 2 rfl
theorem dJ7_fill_53178_3 : decode cJ7_fill_53178 3 = .ok (.arraylength, 1) := gz_d tdJ7_fill_53178_t0_ok 3 rfl
theorem dJ7_fill_53178_4 : decode cJ7_fill_53178 4 = .ok (.istore_n 3, 1) := gz_d tdJ7_fill_53178_t0_ok 4 rfl
theorem dJ7_fill_53178_5 : decode cJ7_fill_53178 5 = .ok (.iload_n 2, 1) := gz_d tdJ7_fill_53178_t0_ok 5 rfl
theorem dJ7_fill_53178_6 : decode cJ7_fill_53178 6 = .ok (.iload_n 3, 1) := gz_d tdJ7_fill_53178_t0_ok 6 rfl
theorem dJ7_fill_53178_7 : decode cJ7_fill_53178 7 = .ok (.if_icmp .ge 13, 3) := gz_d tdJ7_fill_53178_t0_ok 7 rfl
theorem dJ7_fill_53178_10 : decode cJ7_fill_53178 10 = .ok (.aload_n 0, 1) := gz_d tdJ7_fill_53178_t0_ok 8 rfl
theorem dJ7_fill_53178_11 : decode cJ7_fill_53178 11 = .ok (.iload_n 2, 1) := gz_d tdJ7_fill_53178_t0_ok 9 rfl
theorem dJ7_fill_53178_12 : decode cJ7_fill_53178 12 = .ok (.iload_n 1, 1) := gz_d tdJ7_fill_53178_t0_ok 10 rfl
theorem dJ7_fill_53178_13 : decode cJ7_fill_53178 13 = .ok (.iastore, 1) := gz_d tdJ7_fill_53178_t0_ok 11 rfl
theorem dJ7_fill_53178_14 : decode cJ7_fill_53178 14 = .ok (.iinc 2 1, 3) := gz_d tdJ7_fill_53178_t0_ok 12 rfl
theorem dJ7_fill_53178_17 : decode cJ7_fill_53178 17 = .ok (.goto (-12), 3) := gz_d tdJ7_fill_53178_t0_ok 13 rfl
theorem dJ7_fill_53178_20 : decode cJ7_fill_53178 20 = .ok (.return_, 1) := gz_d tdJ7_fill_53178_t0_ok 14 rfl
def tdJ7_fill_7f8df_t0 : List (Nat × Instr × Nat) := [(0, .iconst 0, 1), (1, .istore_n 3, 1), (2, .aload_n 0, 1), (3, .arraylength, 1), (4, .istore 4, 2), (6, .iload_n 3, 1), (7, .iload 4, 2), (9, .if_icmp .ge 13, 3), (12, .aload_n 0, 1), (13, .iload_n 3, 1), (14, .dload_n 1, 1), (15, .dastore, 1), (16, .iinc 3 1, 3), (19, .goto (-13), 3), (22, .return_, 1)]
theorem tdJ7_fill_7f8df_t0_ok : gz_dec cJ7_fill_7f8df tdJ7_fill_7f8df_t0 = true := by decide +kernel
theorem dJ7_fill_7f8df_0 : decode cJ7_fill_7f8df 0 = .ok (.iconst 0, 1) := gz_d tdJ7_fill_7f8df_t0_ok 0 rfl
theorem dJ7_fill_7f8df_1 : decode cJ7_fill_7f8df 1 = .ok (.istore_n 3, 1) := gz_d tdJ7_fill_7f8df_t0_ok 1 rfl
theorem dJ7_fill_7f8df_2 : decode cJ7_fill_7f8df 2 = .ok (.aload_n 0, 1) := gz_d tdJ7_fill_7f8df_t0_ok 2 rfl
theorem dJ7_fill_7f8df_3 : decode cJ7_fill_7f8df 3 = .ok (.arraylength, 1) := gz_d tdJ7_fill_7f8df_t0_ok 3 rfl
theorem dJ7_fill_7f8df_4 : decode cJ7_fill_7f8df 4 = .ok (.istore 4, 2) := gz_d tdJ7_fill_7f8df_t0_ok 4 rfl
theorem dJ7_fill_7f8df_6 : decode cJ7_fill_7f8df 6 = .ok (.iload_n 3, 1) := gz_d tdJ7_fill_7f8df_t0_ok 5 rfl
theorem dJ7_fill_7f8df_7 : decode cJ7_fill_7f8df 7 = .ok (.iload 4, 2) := gz_d tdJ7_fill_7f8df_t0_ok 6 rfl
theorem dJ7_fill_7f8df_9 : decode cJ7_fill_7f8df 9 = .ok (.if_icmp .ge 13, 3) := gz_d tdJ7_fill_7f8df_t0_ok 7 rfl
theorem dJ7_fill_7f8df_12 : decode cJ7_fill_7f8df 12 = .ok (.aload_n 0, 1) := gz_d tdJ7_fill_7f8df_t0_ok 8 rfl
theorem dJ7_fill_7f8df_13 : decode cJ7_fill_7f8df 13 = .ok (.iload_n 3, 1) := gz_d tdJ7_fill_7f8df_t0_ok 9 rfl
theorem dJ7_fill_7f8df_14 : decode cJ7_fill_7f8df 14 = .ok (.dload_n 1, 1) := gz_d tdJ7_fill_7f8df_t0_ok 10 rfl
theorem dJ7_fill_7f8df_15 : decode cJ7_fill_7f8df 15 = .ok (.dastore, 1) := gz_d tdJ7_fill_7f8df_t0_ok 11 rfl
theorem dJ7_fill_7f8df_16 : decode cJ7_fill_7f8df 16 = .ok (.iinc 3 1, 3) := gz_d tdJ7_fill_7f8df_t0_ok 12 rfl
theorem dJ7_fill_7f8df_19 : decode cJ7_fill_7f8df 19 = .ok (.goto (-13), 3) := gz_d tdJ7_fill_7f8df_t0_ok 13 rfl
theorem dJ7_fill_7f8df_22 : decode cJ7_fill_7f8df 22 = .ok (.return_, 1) := gz_d tdJ7_fill_7f8df_t0_ok 14 rfl
def tdL_law_t0 : List (Nat × Instr × Nat) := [(0, .new 7, 3), (3, .dup, 1), (4, .invokespecial 9, 3), (7, .astore_n 1, 1), (8, .new 10, 3), (11, .dup, 1), (12, .invokespecial 12, 3), (15, .astore_n 2, 1), (16, .iconst 0, 1), (17, .istore_n 3, 1), (18, .iload_n 3, 1), (19, .aload_n 0, 1), (20, .arraylength, 1), (21, .bipush 7, 2), (23, .isub, 1), (24, .if_icmp .gt 767, 3), (27, .aload_n 0, 1), (28, .iload_n 3, 1), (29, .iaload, 1), (30, .bipush 31, 2), (32, .iand, 1), (33, .tableswitch 752 0 17 #[87, 156, 179, 222, 255, 298, 351, 404, 479, 513, 547, 580, 623, 646, 669, 692, 715, 738], 87), (120, .aload_n 1, 1), (121, .aload_n 0, 1), (122, .iload_n 3, 1), (123, .iconst 1, 1), (124, .iadd, 1), (125, .iaload, 1), (126, .aload_n 0, 1), (127, .iload_n 3, 1), (128, .iconst 2, 1), (129, .iadd, 1), (130, .iaload, 1), (131, .aload_n 0, 1), (132, .iload_n 3, 1), (133, .iconst 3, 1), (134, .iadd, 1), (135, .iaload, 1), (136, .aload_n 0, 1), (137, .iload_n 3, 1), (138, .iconst 4, 1), (139, .iadd, 1), (140, .iaload, 1), (141, .ifCond .eq 7, 3), (144, .iconst 1, 1), (145, .goto 4, 3), (148, .iconst 0, 1), (149, .invokevirtual 13, 3), (152, .aload_n 2, 1), (153, .aload_n 0, 1), (154, .iload_n 3, 1), (155, .iconst 1, 1), (156, .iadd, 1), (157, .iaload, 1), (158, .aload_n 0, 1), (159, .iload_n 3, 1), (160, .iconst 2, 1), (161, .iadd, 1), (162, .iaload, 1), (163, .aload_n 0, 1)]
theorem tdL_law_t0_ok : gz_dec cL_law tdL_law_t0 = true := by decide +kernel
theorem dL_law_0 : decode cL_law 0 = .ok (.new 7, 3) := gz_d tdL_law_t0_ok 0 rfl
theorem dL_law_3 : decode cL_law 3 = .ok (.dup, 1) := gz_d tdL_law_t0_ok 1 rfl
theorem dL_law_4 : decode cL_law 4 = .ok (.invokespecial 9, 3) := gz_d tdL_law_t0_ok 2 rfl
theorem dL_law_7 : decode cL_law 7 = .ok (.astore_n 1, 1) := gz_d tdL_law_t0_ok 3 rfl
theorem dL_law_8 : decode cL_law 8 = .ok (.new 10, 3) := gz_d tdL_law_t0_ok 4 rfl
theorem dL_law_11 : decode cL_law 11 = .ok (.dup, 1) := gz_d tdL_law_t0_ok 5 rfl
theorem dL_law_12 : decode cL_law 12 = .ok (.invokespecial 12, 3) := gz_d tdL_law_t0_ok 6 rfl
theorem dL_law_15 : decode cL_law 15 = .ok (.astore_n 2, 1) := gz_d tdL_law_t0_ok 7 rfl
theorem dL_law_16 : decode cL_law 16 = .ok (.iconst 0, 1) := gz_d tdL_law_t0_ok 8 rfl
theorem dL_law_17 : decode cL_law 17 = .ok (.istore_n 3, 1) := gz_d tdL_law_t0_ok 9 rfl
theorem dL_law_18 : decode cL_law 18 = .ok (.iload_n 3, 1) := gz_d tdL_law_t0_ok 10 rfl
theorem dL_law_19 : decode cL_law 19 = .ok (.aload_n 0, 1) := gz_d tdL_law_t0_ok 11 rfl
theorem dL_law_20 : decode cL_law 20 = .ok (.arraylength, 1) := gz_d tdL_law_t0_ok 12 rfl
theorem dL_law_21 : decode cL_law 21 = .ok (.bipush 7, 2) := gz_d tdL_law_t0_ok 13 rfl
theorem dL_law_23 : decode cL_law 23 = .ok (.isub, 1) := gz_d tdL_law_t0_ok 14 rfl
theorem dL_law_24 : decode cL_law 24 = .ok (.if_icmp .gt 767, 3) := gz_d tdL_law_t0_ok 15 rfl
theorem dL_law_27 : decode cL_law 27 = .ok (.aload_n 0, 1) := gz_d tdL_law_t0_ok 16 rfl
theorem dL_law_28 : decode cL_law 28 = .ok (.iload_n 3, 1) := gz_d tdL_law_t0_ok 17 rfl
theorem dL_law_29 : decode cL_law 29 = .ok (.iaload, 1) := gz_d tdL_law_t0_ok 18 rfl
theorem dL_law_30 : decode cL_law 30 = .ok (.bipush 31, 2) := gz_d tdL_law_t0_ok 19 rfl
theorem dL_law_32 : decode cL_law 32 = .ok (.iand, 1) := gz_d tdL_law_t0_ok 20 rfl
theorem dL_law_33 : decode cL_law 33 = .ok (.tableswitch 752 0 17 #[87, 156, 179, 222, 255, 298, 351, 404, 479, 513, 547, 580, 623, 646, 669, 692, 715, 738], 87) := gz_d tdL_law_t0_ok 21 rfl
theorem dL_law_120 : decode cL_law 120 = .ok (.aload_n 1, 1) := gz_d tdL_law_t0_ok 22 rfl
theorem dL_law_121 : decode cL_law 121 = .ok (.aload_n 0, 1) := gz_d tdL_law_t0_ok 23 rfl
theorem dL_law_122 : decode cL_law 122 = .ok (.iload_n 3, 1) := gz_d tdL_law_t0_ok 24 rfl
theorem dL_law_123 : decode cL_law 123 = .ok (.iconst 1, 1) := gz_d tdL_law_t0_ok 25 rfl
theorem dL_law_124 : decode cL_law 124 = .ok (.iadd, 1) := gz_d tdL_law_t0_ok 26 rfl
theorem dL_law_125 : decode cL_law 125 = .ok (.iaload, 1) := gz_d tdL_law_t0_ok 27 rfl
theorem dL_law_126 : decode cL_law 126 = .ok (.aload_n 0, 1) := gz_d tdL_law_t0_ok 28 rfl
theorem dL_law_127 : decode cL_law 127 = .ok (.iload_n 3, 1) := gz_d tdL_law_t0_ok 29 rfl
theorem dL_law_128 : decode cL_law 128 = .ok (.iconst 2, 1) := gz_d tdL_law_t0_ok 30 rfl
theorem dL_law_129 : decode cL_law 129 = .ok (.iadd, 1) := gz_d tdL_law_t0_ok 31 rfl
theorem dL_law_130 : decode cL_law 130 = .ok (.iaload, 1) := gz_d tdL_law_t0_ok 32 rfl
theorem dL_law_131 : decode cL_law 131 = .ok (.aload_n 0, 1) := gz_d tdL_law_t0_ok 33 rfl
theorem dL_law_132 : decode cL_law 132 = .ok (.iload_n 3, 1) := gz_d tdL_law_t0_ok 34 rfl
theorem dL_law_133 : decode cL_law 133 = .ok (.iconst 3, 1) := gz_d tdL_law_t0_ok 35 rfl
theorem dL_law_134 : decode cL_law 134 = .ok (.iadd, 1) := gz_d tdL_law_t0_ok 36 rfl
theorem dL_law_135 : decode cL_law 135 = .ok (.iaload, 1) := gz_d tdL_law_t0_ok 37 rfl
theorem dL_law_136 : decode cL_law 136 = .ok (.aload_n 0, 1) := gz_d tdL_law_t0_ok 38 rfl
theorem dL_law_137 : decode cL_law 137 = .ok (.iload_n 3, 1) := gz_d tdL_law_t0_ok 39 rfl
theorem dL_law_138 : decode cL_law 138 = .ok (.iconst 4, 1) := gz_d tdL_law_t0_ok 40 rfl
theorem dL_law_139 : decode cL_law 139 = .ok (.iadd, 1) := gz_d tdL_law_t0_ok 41 rfl
theorem dL_law_140 : decode cL_law 140 = .ok (.iaload, 1) := gz_d tdL_law_t0_ok 42 rfl
theorem dL_law_141 : decode cL_law 141 = .ok (.ifCond .eq 7, 3) := gz_d tdL_law_t0_ok 43 rfl
theorem dL_law_144 : decode cL_law 144 = .ok (.iconst 1, 1) := gz_d tdL_law_t0_ok 44 rfl
theorem dL_law_145 : decode cL_law 145 = .ok (.goto 4, 3) := gz_d tdL_law_t0_ok 45 rfl
theorem dL_law_148 : decode cL_law 148 = .ok (.iconst 0, 1) := gz_d tdL_law_t0_ok 46 rfl
theorem dL_law_149 : decode cL_law 149 = .ok (.invokevirtual 13, 3) := gz_d tdL_law_t0_ok 47 rfl
theorem dL_law_152 : decode cL_law 152 = .ok (.aload_n 2, 1) := gz_d tdL_law_t0_ok 48 rfl
theorem dL_law_153 : decode cL_law 153 = .ok (.aload_n 0, 1) := gz_d tdL_law_t0_ok 49 rfl
theorem dL_law_154 : decode cL_law 154 = .ok (.iload_n 3, 1) := gz_d tdL_law_t0_ok 50 rfl
theorem dL_law_155 : decode cL_law 155 = .ok (.iconst 1, 1) := gz_d tdL_law_t0_ok 51 rfl
theorem dL_law_156 : decode cL_law 156 = .ok (.iadd, 1) := gz_d tdL_law_t0_ok 52 rfl
theorem dL_law_157 : decode cL_law 157 = .ok (.iaload, 1) := gz_d tdL_law_t0_ok 53 rfl
theorem dL_law_158 : decode cL_law 158 = .ok (.aload_n 0, 1) := gz_d tdL_law_t0_ok 54 rfl
theorem dL_law_159 : decode cL_law 159 = .ok (.iload_n 3, 1) := gz_d tdL_law_t0_ok 55 rfl
theorem dL_law_160 : decode cL_law 160 = .ok (.iconst 2, 1) := gz_d tdL_law_t0_ok 56 rfl
theorem dL_law_161 : decode cL_law 161 = .ok (.iadd, 1) := gz_d tdL_law_t0_ok 57 rfl
theorem dL_law_162 : decode cL_law 162 = .ok (.iaload, 1) := gz_d tdL_law_t0_ok 58 rfl
theorem dL_law_163 : decode cL_law 163 = .ok (.aload_n 0, 1) := gz_d tdL_law_t0_ok 59 rfl
def tdL_law_t1 : List (Nat × Instr × Nat) := [(164, .iload_n 3, 1), (165, .iconst 3, 1), (166, .iadd, 1), (167, .iaload, 1), (168, .aload_n 0, 1), (169, .iload_n 3, 1), (170, .iconst 4, 1), (171, .iadd, 1), (172, .iaload, 1), (173, .ifCond .eq 7, 3), (176, .iconst 1, 1), (177, .goto 4, 3), (180, .iconst 0, 1), (181, .invokevirtual 17, 3), (184, .if_icmp .eq 601, 3), (187, .iconst 0, 1), (188, .ireturn, 1), (189, .aload_n 1, 1), (190, .aload_n 0, 1), (191, .iload_n 3, 1), (192, .iconst 1, 1), (193, .iadd, 1), (194, .iaload, 1), (195, .invokevirtual 18, 3), (198, .aload_n 2, 1), (199, .aload_n 0, 1), (200, .iload_n 3, 1), (201, .iconst 1, 1), (202, .iadd, 1), (203, .iaload, 1), (204, .invokevirtual 22, 3), (207, .if_icmp .eq 578, 3), (210, .iconst 0, 1), (211, .ireturn, 1), (212, .aload_n 1, 1), (213, .aload_n 0, 1), (214, .iload_n 3, 1), (215, .iconst 1, 1), (216, .iadd, 1), (217, .iaload, 1), (218, .aload_n 0, 1), (219, .iload_n 3, 1), (220, .iconst 2, 1), (221, .iadd, 1), (222, .iaload, 1), (223, .aload_n 0, 1), (224, .iload_n 3, 1), (225, .iconst 3, 1), (226, .iadd, 1), (227, .iaload, 1), (228, .invokevirtual 23, 3), (231, .aload_n 2, 1), (232, .aload_n 0, 1), (233, .iload_n 3, 1), (234, .iconst 1, 1), (235, .iadd, 1), (236, .iaload, 1), (237, .aload_n 0, 1), (238, .iload_n 3, 1), (239, .iconst 2, 1)]
theorem tdL_law_t1_ok : gz_dec cL_law tdL_law_t1 = true := by decide +kernel
theorem dL_law_164 : decode cL_law 164 = .ok (.iload_n 3, 1) := gz_d tdL_law_t1_ok 0 rfl
theorem dL_law_165 : decode cL_law 165 = .ok (.iconst 3, 1) := gz_d tdL_law_t1_ok 1 rfl
theorem dL_law_166 : decode cL_law 166 = .ok (.iadd, 1) := gz_d tdL_law_t1_ok 2 rfl
theorem dL_law_167 : decode cL_law 167 = .ok (.iaload, 1) := gz_d tdL_law_t1_ok 3 rfl
theorem dL_law_168 : decode cL_law 168 = .ok (.aload_n 0, 1) := gz_d tdL_law_t1_ok 4 rfl
theorem dL_law_169 : decode cL_law 169 = .ok (.iload_n 3, 1) := gz_d tdL_law_t1_ok 5 rfl
theorem dL_law_170 : decode cL_law 170 = .ok (.iconst 4, 1) := gz_d tdL_law_t1_ok 6 rfl
theorem dL_law_171 : decode cL_law 171 = .ok (.iadd, 1) := gz_d tdL_law_t1_ok 7 rfl
theorem dL_law_172 : decode cL_law 172 = .ok (.iaload, 1) := gz_d tdL_law_t1_ok 8 rfl
theorem dL_law_173 : decode cL_law 173 = .ok (.ifCond .eq 7, 3) := gz_d tdL_law_t1_ok 9 rfl
theorem dL_law_176 : decode cL_law 176 = .ok (.iconst 1, 1) := gz_d tdL_law_t1_ok 10 rfl
theorem dL_law_177 : decode cL_law 177 = .ok (.goto 4, 3) := gz_d tdL_law_t1_ok 11 rfl
theorem dL_law_180 : decode cL_law 180 = .ok (.iconst 0, 1) := gz_d tdL_law_t1_ok 12 rfl
theorem dL_law_181 : decode cL_law 181 = .ok (.invokevirtual 17, 3) := gz_d tdL_law_t1_ok 13 rfl
theorem dL_law_184 : decode cL_law 184 = .ok (.if_icmp .eq 601, 3) := gz_d tdL_law_t1_ok 14 rfl
theorem dL_law_187 : decode cL_law 187 = .ok (.iconst 0, 1) := gz_d tdL_law_t1_ok 15 rfl
theorem dL_law_188 : decode cL_law 188 = .ok (.ireturn, 1) := gz_d tdL_law_t1_ok 16 rfl
theorem dL_law_189 : decode cL_law 189 = .ok (.aload_n 1, 1) := gz_d tdL_law_t1_ok 17 rfl
theorem dL_law_190 : decode cL_law 190 = .ok (.aload_n 0, 1) := gz_d tdL_law_t1_ok 18 rfl
theorem dL_law_191 : decode cL_law 191 = .ok (.iload_n 3, 1) := gz_d tdL_law_t1_ok 19 rfl
theorem dL_law_192 : decode cL_law 192 = .ok (.iconst 1, 1) := gz_d tdL_law_t1_ok 20 rfl
theorem dL_law_193 : decode cL_law 193 = .ok (.iadd, 1) := gz_d tdL_law_t1_ok 21 rfl
theorem dL_law_194 : decode cL_law 194 = .ok (.iaload, 1) := gz_d tdL_law_t1_ok 22 rfl
theorem dL_law_195 : decode cL_law 195 = .ok (.invokevirtual 18, 3) := gz_d tdL_law_t1_ok 23 rfl
theorem dL_law_198 : decode cL_law 198 = .ok (.aload_n 2, 1) := gz_d tdL_law_t1_ok 24 rfl
theorem dL_law_199 : decode cL_law 199 = .ok (.aload_n 0, 1) := gz_d tdL_law_t1_ok 25 rfl
theorem dL_law_200 : decode cL_law 200 = .ok (.iload_n 3, 1) := gz_d tdL_law_t1_ok 26 rfl
theorem dL_law_201 : decode cL_law 201 = .ok (.iconst 1, 1) := gz_d tdL_law_t1_ok 27 rfl
theorem dL_law_202 : decode cL_law 202 = .ok (.iadd, 1) := gz_d tdL_law_t1_ok 28 rfl
theorem dL_law_203 : decode cL_law 203 = .ok (.iaload, 1) := gz_d tdL_law_t1_ok 29 rfl
theorem dL_law_204 : decode cL_law 204 = .ok (.invokevirtual 22, 3) := gz_d tdL_law_t1_ok 30 rfl
theorem dL_law_207 : decode cL_law 207 = .ok (.if_icmp .eq 578, 3) := gz_d tdL_law_t1_ok 31 rfl
theorem dL_law_210 : decode cL_law 210 = .ok (.iconst 0, 1) := gz_d tdL_law_t1_ok 32 rfl
theorem dL_law_211 : decode cL_law 211 = .ok (.ireturn, 1) := gz_d tdL_law_t1_ok 33 rfl
theorem dL_law_212 : decode cL_law 212 = .ok (.aload_n 1, 1) := gz_d tdL_law_t1_ok 34 rfl
theorem dL_law_213 : decode cL_law 213 = .ok (.aload_n 0, 1) := gz_d tdL_law_t1_ok 35 rfl
theorem dL_law_214 : decode cL_law 214 = .ok (.iload_n 3, 1) := gz_d tdL_law_t1_ok 36 rfl
theorem dL_law_215 : decode cL_law 215 = .ok (.iconst 1, 1) := gz_d tdL_law_t1_ok 37 rfl
theorem dL_law_216 : decode cL_law 216 = .ok (.iadd, 1) := gz_d tdL_law_t1_ok 38 rfl
theorem dL_law_217 : decode cL_law 217 = .ok (.iaload, 1) := gz_d tdL_law_t1_ok 39 rfl
theorem dL_law_218 : decode cL_law 218 = .ok (.aload_n 0, 1) := gz_d tdL_law_t1_ok 40 rfl
theorem dL_law_219 : decode cL_law 219 = .ok (.iload_n 3, 1) := gz_d tdL_law_t1_ok 41 rfl
theorem dL_law_220 : decode cL_law 220 = .ok (.iconst 2, 1) := gz_d tdL_law_t1_ok 42 rfl
theorem dL_law_221 : decode cL_law 221 = .ok (.iadd, 1) := gz_d tdL_law_t1_ok 43 rfl
theorem dL_law_222 : decode cL_law 222 = .ok (.iaload, 1) := gz_d tdL_law_t1_ok 44 rfl
theorem dL_law_223 : decode cL_law 223 = .ok (.aload_n 0, 1) := gz_d tdL_law_t1_ok 45 rfl
theorem dL_law_224 : decode cL_law 224 = .ok (.iload_n 3, 1) := gz_d tdL_law_t1_ok 46 rfl
theorem dL_law_225 : decode cL_law 225 = .ok (.iconst 3, 1) := gz_d tdL_law_t1_ok 47 rfl
theorem dL_law_226 : decode cL_law 226 = .ok (.iadd, 1) := gz_d tdL_law_t1_ok 48 rfl
theorem dL_law_227 : decode cL_law 227 = .ok (.iaload, 1) := gz_d tdL_law_t1_ok 49 rfl
theorem dL_law_228 : decode cL_law 228 = .ok (.invokevirtual 23, 3) := gz_d tdL_law_t1_ok 50 rfl
theorem dL_law_231 : decode cL_law 231 = .ok (.aload_n 2, 1) := gz_d tdL_law_t1_ok 51 rfl
theorem dL_law_232 : decode cL_law 232 = .ok (.aload_n 0, 1) := gz_d tdL_law_t1_ok 52 rfl
theorem dL_law_233 : decode cL_law 233 = .ok (.iload_n 3, 1) := gz_d tdL_law_t1_ok 53 rfl
theorem dL_law_234 : decode cL_law 234 = .ok (.iconst 1, 1) := gz_d tdL_law_t1_ok 54 rfl
theorem dL_law_235 : decode cL_law 235 = .ok (.iadd, 1) := gz_d tdL_law_t1_ok 55 rfl
theorem dL_law_236 : decode cL_law 236 = .ok (.iaload, 1) := gz_d tdL_law_t1_ok 56 rfl
theorem dL_law_237 : decode cL_law 237 = .ok (.aload_n 0, 1) := gz_d tdL_law_t1_ok 57 rfl
theorem dL_law_238 : decode cL_law 238 = .ok (.iload_n 3, 1) := gz_d tdL_law_t1_ok 58 rfl
theorem dL_law_239 : decode cL_law 239 = .ok (.iconst 2, 1) := gz_d tdL_law_t1_ok 59 rfl
def tdL_law_t2 : List (Nat × Instr × Nat) := [(240, .iadd, 1), (241, .iaload, 1), (242, .aload_n 0, 1), (243, .iload_n 3, 1), (244, .iconst 3, 1), (245, .iadd, 1), (246, .iaload, 1), (247, .invokevirtual 27, 3), (250, .if_icmp .eq 535, 3), (253, .iconst 0, 1), (254, .ireturn, 1), (255, .aload_n 1, 1), (256, .aload_n 0, 1), (257, .iload_n 3, 1), (258, .iconst 1, 1), (259, .iadd, 1), (260, .iaload, 1), (261, .aload_n 0, 1), (262, .iload_n 3, 1), (263, .iconst 2, 1), (264, .iadd, 1), (265, .iaload, 1), (266, .invokevirtual 28, 3), (269, .aload_n 2, 1), (270, .aload_n 0, 1), (271, .iload_n 3, 1), (272, .iconst 1, 1), (273, .iadd, 1), (274, .iaload, 1), (275, .aload_n 0, 1), (276, .iload_n 3, 1), (277, .iconst 2, 1), (278, .iadd, 1), (279, .iaload, 1), (280, .invokevirtual 32, 3), (283, .if_icmp .eq 502, 3), (286, .iconst 0, 1), (287, .ireturn, 1), (288, .aload_n 1, 1), (289, .aload_n 0, 1), (290, .iload_n 3, 1), (291, .iconst 1, 1), (292, .iadd, 1), (293, .iaload, 1), (294, .aload_n 0, 1), (295, .iload_n 3, 1), (296, .iconst 2, 1), (297, .iadd, 1), (298, .iaload, 1), (299, .aload_n 0, 1), (300, .iload_n 3, 1), (301, .iconst 3, 1), (302, .iadd, 1), (303, .iaload, 1), (304, .invokevirtual 33, 3), (307, .aload_n 2, 1), (308, .aload_n 0, 1), (309, .iload_n 3, 1), (310, .iconst 1, 1), (311, .iadd, 1)]
theorem tdL_law_t2_ok : gz_dec cL_law tdL_law_t2 = true := by decide +kernel
theorem dL_law_240 : decode cL_law 240 = .ok (.iadd, 1) := gz_d tdL_law_t2_ok 0 rfl
theorem dL_law_241 : decode cL_law 241 = .ok (.iaload, 1) := gz_d tdL_law_t2_ok 1 rfl
theorem dL_law_242 : decode cL_law 242 = .ok (.aload_n 0, 1) := gz_d tdL_law_t2_ok 2 rfl
theorem dL_law_243 : decode cL_law 243 = .ok (.iload_n 3, 1) := gz_d tdL_law_t2_ok 3 rfl
theorem dL_law_244 : decode cL_law 244 = .ok (.iconst 3, 1) := gz_d tdL_law_t2_ok 4 rfl
theorem dL_law_245 : decode cL_law 245 = .ok (.iadd, 1) := gz_d tdL_law_t2_ok 5 rfl
theorem dL_law_246 : decode cL_law 246 = .ok (.iaload, 1) := gz_d tdL_law_t2_ok 6 rfl
theorem dL_law_247 : decode cL_law 247 = .ok (.invokevirtual 27, 3) := gz_d tdL_law_t2_ok 7 rfl
theorem dL_law_250 : decode cL_law 250 = .ok (.if_icmp .eq 535, 3) := gz_d tdL_law_t2_ok 8 rfl
theorem dL_law_253 : decode cL_law 253 = .ok (.iconst 0, 1) := gz_d tdL_law_t2_ok 9 rfl
theorem dL_law_254 : decode cL_law 254 = .ok (.ireturn, 1) := gz_d tdL_law_t2_ok 10 rfl
theorem dL_law_255 : decode cL_law 255 = .ok (.aload_n 1, 1) := gz_d tdL_law_t2_ok 11 rfl
theorem dL_law_256 : decode cL_law 256 = .ok (.aload_n 0, 1) := gz_d tdL_law_t2_ok 12 rfl
theorem dL_law_257 : decode cL_law 257 = .ok (.iload_n 3, 1) := gz_d tdL_law_t2_ok 13 rfl
theorem dL_law_258 : decode cL_law 258 = .ok (.iconst 1, 1) := gz_d tdL_law_t2_ok 14 rfl
theorem dL_law_259 : decode cL_law 259 = .ok (.iadd, 1) := gz_d tdL_law_t2_ok 15 rfl
theorem dL_law_260 : decode cL_law 260 = .ok (.iaload, 1) := gz_d tdL_law_t2_ok 16 rfl
theorem dL_law_261 : decode cL_law 261 = .ok (.aload_n 0, 1) := gz_d tdL_law_t2_ok 17 rfl
theorem dL_law_262 : decode cL_law 262 = .ok (.iload_n 3, 1) := gz_d tdL_law_t2_ok 18 rfl
theorem dL_law_263 : decode cL_law 263 = .ok (.iconst 2, 1) := gz_d tdL_law_t2_ok 19 rfl
theorem dL_law_264 : decode cL_law 264 = .ok (.iadd, 1) := gz_d tdL_law_t2_ok 20 rfl
theorem dL_law_265 : decode cL_law 265 = .ok (.iaload, 1) := gz_d tdL_law_t2_ok 21 rfl
theorem dL_law_266 : decode cL_law 266 = .ok (.invokevirtual 28, 3) := gz_d tdL_law_t2_ok 22 rfl
theorem dL_law_269 : decode cL_law 269 = .ok (.aload_n 2, 1) := gz_d tdL_law_t2_ok 23 rfl
theorem dL_law_270 : decode cL_law 270 = .ok (.aload_n 0, 1) := gz_d tdL_law_t2_ok 24 rfl
theorem dL_law_271 : decode cL_law 271 = .ok (.iload_n 3, 1) := gz_d tdL_law_t2_ok 25 rfl
theorem dL_law_272 : decode cL_law 272 = .ok (.iconst 1, 1) := gz_d tdL_law_t2_ok 26 rfl
theorem dL_law_273 : decode cL_law 273 = .ok (.iadd, 1) := gz_d tdL_law_t2_ok 27 rfl
theorem dL_law_274 : decode cL_law 274 = .ok (.iaload, 1) := gz_d tdL_law_t2_ok 28 rfl
theorem dL_law_275 : decode cL_law 275 = .ok (.aload_n 0, 1) := gz_d tdL_law_t2_ok 29 rfl
theorem dL_law_276 : decode cL_law 276 = .ok (.iload_n 3, 1) := gz_d tdL_law_t2_ok 30 rfl
theorem dL_law_277 : decode cL_law 277 = .ok (.iconst 2, 1) := gz_d tdL_law_t2_ok 31 rfl
theorem dL_law_278 : decode cL_law 278 = .ok (.iadd, 1) := gz_d tdL_law_t2_ok 32 rfl
theorem dL_law_279 : decode cL_law 279 = .ok (.iaload, 1) := gz_d tdL_law_t2_ok 33 rfl
theorem dL_law_280 : decode cL_law 280 = .ok (.invokevirtual 32, 3) := gz_d tdL_law_t2_ok 34 rfl
theorem dL_law_283 : decode cL_law 283 = .ok (.if_icmp .eq 502, 3) := gz_d tdL_law_t2_ok 35 rfl
theorem dL_law_286 : decode cL_law 286 = .ok (.iconst 0, 1) := gz_d tdL_law_t2_ok 36 rfl
theorem dL_law_287 : decode cL_law 287 = .ok (.ireturn, 1) := gz_d tdL_law_t2_ok 37 rfl
theorem dL_law_288 : decode cL_law 288 = .ok (.aload_n 1, 1) := gz_d tdL_law_t2_ok 38 rfl
theorem dL_law_289 : decode cL_law 289 = .ok (.aload_n 0, 1) := gz_d tdL_law_t2_ok 39 rfl
theorem dL_law_290 : decode cL_law 290 = .ok (.iload_n 3, 1) := gz_d tdL_law_t2_ok 40 rfl
theorem dL_law_291 : decode cL_law 291 = .ok (.iconst 1, 1) := gz_d tdL_law_t2_ok 41 rfl
theorem dL_law_292 : decode cL_law 292 = .ok (.iadd, 1) := gz_d tdL_law_t2_ok 42 rfl
theorem dL_law_293 : decode cL_law 293 = .ok (.iaload, 1) := gz_d tdL_law_t2_ok 43 rfl
theorem dL_law_294 : decode cL_law 294 = .ok (.aload_n 0, 1) := gz_d tdL_law_t2_ok 44 rfl
theorem dL_law_295 : decode cL_law 295 = .ok (.iload_n 3, 1) := gz_d tdL_law_t2_ok 45 rfl
theorem dL_law_296 : decode cL_law 296 = .ok (.iconst 2, 1) := gz_d tdL_law_t2_ok 46 rfl
theorem dL_law_297 : decode cL_law 297 = .ok (.iadd, 1) := gz_d tdL_law_t2_ok 47 rfl
theorem dL_law_298 : decode cL_law 298 = .ok (.iaload, 1) := gz_d tdL_law_t2_ok 48 rfl
theorem dL_law_299 : decode cL_law 299 = .ok (.aload_n 0, 1) := gz_d tdL_law_t2_ok 49 rfl
theorem dL_law_300 : decode cL_law 300 = .ok (.iload_n 3, 1) := gz_d tdL_law_t2_ok 50 rfl
theorem dL_law_301 : decode cL_law 301 = .ok (.iconst 3, 1) := gz_d tdL_law_t2_ok 51 rfl
theorem dL_law_302 : decode cL_law 302 = .ok (.iadd, 1) := gz_d tdL_law_t2_ok 52 rfl
theorem dL_law_303 : decode cL_law 303 = .ok (.iaload, 1) := gz_d tdL_law_t2_ok 53 rfl
theorem dL_law_304 : decode cL_law 304 = .ok (.invokevirtual 33, 3) := gz_d tdL_law_t2_ok 54 rfl
theorem dL_law_307 : decode cL_law 307 = .ok (.aload_n 2, 1) := gz_d tdL_law_t2_ok 55 rfl
theorem dL_law_308 : decode cL_law 308 = .ok (.aload_n 0, 1) := gz_d tdL_law_t2_ok 56 rfl
theorem dL_law_309 : decode cL_law 309 = .ok (.iload_n 3, 1) := gz_d tdL_law_t2_ok 57 rfl
theorem dL_law_310 : decode cL_law 310 = .ok (.iconst 1, 1) := gz_d tdL_law_t2_ok 58 rfl
theorem dL_law_311 : decode cL_law 311 = .ok (.iadd, 1) := gz_d tdL_law_t2_ok 59 rfl
def tdL_law_t3 : List (Nat × Instr × Nat) := [(312, .iaload, 1), (313, .aload_n 0, 1), (314, .iload_n 3, 1), (315, .iconst 2, 1), (316, .iadd, 1), (317, .iaload, 1), (318, .aload_n 0, 1), (319, .iload_n 3, 1), (320, .iconst 3, 1), (321, .iadd, 1), (322, .iaload, 1), (323, .invokevirtual 36, 3), (326, .if_icmp .eq 459, 3), (329, .iconst 0, 1), (330, .ireturn, 1), (331, .aload_n 1, 1), (332, .aload_n 0, 1), (333, .iload_n 3, 1), (334, .iconst 1, 1), (335, .iadd, 1), (336, .iaload, 1), (337, .aload_n 0, 1), (338, .iload_n 3, 1), (339, .iconst 2, 1), (340, .iadd, 1), (341, .iaload, 1), (342, .aload_n 0, 1), (343, .iload_n 3, 1), (344, .iconst 3, 1), (345, .iadd, 1), (346, .iaload, 1), (347, .aload_n 0, 1), (348, .iload_n 3, 1), (349, .iconst 4, 1), (350, .iadd, 1), (351, .iaload, 1), (352, .invokevirtual 37, 3), (355, .aload_n 2, 1), (356, .aload_n 0, 1), (357, .iload_n 3, 1), (358, .iconst 1, 1), (359, .iadd, 1), (360, .iaload, 1), (361, .aload_n 0, 1), (362, .iload_n 3, 1), (363, .iconst 2, 1), (364, .iadd, 1), (365, .iaload, 1), (366, .aload_n 0, 1), (367, .iload_n 3, 1), (368, .iconst 3, 1), (369, .iadd, 1), (370, .iaload, 1), (371, .aload_n 0, 1), (372, .iload_n 3, 1), (373, .iconst 4, 1), (374, .iadd, 1), (375, .iaload, 1), (376, .invokevirtual 41, 3), (379, .if_icmp .eq 406, 3)]
theorem tdL_law_t3_ok : gz_dec cL_law tdL_law_t3 = true := by decide +kernel
theorem dL_law_312 : decode cL_law 312 = .ok (.iaload, 1) := gz_d tdL_law_t3_ok 0 rfl
theorem dL_law_313 : decode cL_law 313 = .ok (.aload_n 0, 1) := gz_d tdL_law_t3_ok 1 rfl
theorem dL_law_314 : decode cL_law 314 = .ok (.iload_n 3, 1) := gz_d tdL_law_t3_ok 2 rfl
theorem dL_law_315 : decode cL_law 315 = .ok (.iconst 2, 1) := gz_d tdL_law_t3_ok 3 rfl
theorem dL_law_316 : decode cL_law 316 = .ok (.iadd, 1) := gz_d tdL_law_t3_ok 4 rfl
theorem dL_law_317 : decode cL_law 317 = .ok (.iaload, 1) := gz_d tdL_law_t3_ok 5 rfl
theorem dL_law_318 : decode cL_law 318 = .ok (.aload_n 0, 1) := gz_d tdL_law_t3_ok 6 rfl
theorem dL_law_319 : decode cL_law 319 = .ok (.iload_n 3, 1) := gz_d tdL_law_t3_ok 7 rfl
theorem dL_law_320 : decode cL_law 320 = .ok (.iconst 3, 1) := gz_d tdL_law_t3_ok 8 rfl
theorem dL_law_321 : decode cL_law 321 = .ok (.iadd, 1) := gz_d tdL_law_t3_ok 9 rfl
theorem dL_law_322 : decode cL_law 322 = .ok (.iaload, 1) := gz_d tdL_law_t3_ok 10 rfl
theorem dL_law_323 : decode cL_law 323 = .ok (.invokevirtual 36, 3) := gz_d tdL_law_t3_ok 11 rfl
theorem dL_law_326 : decode cL_law 326 = .ok (.if_icmp .eq 459, 3) := gz_d tdL_law_t3_ok 12 rfl
theorem dL_law_329 : decode cL_law 329 = .ok (.iconst 0, 1) := gz_d tdL_law_t3_ok 13 rfl
theorem dL_law_330 : decode cL_law 330 = .ok (.ireturn, 1) := gz_d tdL_law_t3_ok 14 rfl
theorem dL_law_331 : decode cL_law 331 = .ok (.aload_n 1, 1) := gz_d tdL_law_t3_ok 15 rfl
theorem dL_law_332 : decode cL_law 332 = .ok (.aload_n 0, 1) := gz_d tdL_law_t3_ok 16 rfl
theorem dL_law_333 : decode cL_law 333 = .ok (.iload_n 3, 1) := gz_d tdL_law_t3_ok 17 rfl
theorem dL_law_334 : decode cL_law 334 = .ok (.iconst 1, 1) := gz_d tdL_law_t3_ok 18 rfl
theorem dL_law_335 : decode cL_law 335 = .ok (.iadd, 1) := gz_d tdL_law_t3_ok 19 rfl
theorem dL_law_336 : decode cL_law 336 = .ok (.iaload, 1) := gz_d tdL_law_t3_ok 20 rfl
theorem dL_law_337 : decode cL_law 337 = .ok (.aload_n 0, 1) := gz_d tdL_law_t3_ok 21 rfl
theorem dL_law_338 : decode cL_law 338 = .ok (.iload_n 3, 1) := gz_d tdL_law_t3_ok 22 rfl
theorem dL_law_339 : decode cL_law 339 = .ok (.iconst 2, 1) := gz_d tdL_law_t3_ok 23 rfl
theorem dL_law_340 : decode cL_law 340 = .ok (.iadd, 1) := gz_d tdL_law_t3_ok 24 rfl
theorem dL_law_341 : decode cL_law 341 = .ok (.iaload, 1) := gz_d tdL_law_t3_ok 25 rfl
theorem dL_law_342 : decode cL_law 342 = .ok (.aload_n 0, 1) := gz_d tdL_law_t3_ok 26 rfl
theorem dL_law_343 : decode cL_law 343 = .ok (.iload_n 3, 1) := gz_d tdL_law_t3_ok 27 rfl
theorem dL_law_344 : decode cL_law 344 = .ok (.iconst 3, 1) := gz_d tdL_law_t3_ok 28 rfl
theorem dL_law_345 : decode cL_law 345 = .ok (.iadd, 1) := gz_d tdL_law_t3_ok 29 rfl
theorem dL_law_346 : decode cL_law 346 = .ok (.iaload, 1) := gz_d tdL_law_t3_ok 30 rfl
theorem dL_law_347 : decode cL_law 347 = .ok (.aload_n 0, 1) := gz_d tdL_law_t3_ok 31 rfl
theorem dL_law_348 : decode cL_law 348 = .ok (.iload_n 3, 1) := gz_d tdL_law_t3_ok 32 rfl
theorem dL_law_349 : decode cL_law 349 = .ok (.iconst 4, 1) := gz_d tdL_law_t3_ok 33 rfl
theorem dL_law_350 : decode cL_law 350 = .ok (.iadd, 1) := gz_d tdL_law_t3_ok 34 rfl
theorem dL_law_351 : decode cL_law 351 = .ok (.iaload, 1) := gz_d tdL_law_t3_ok 35 rfl
theorem dL_law_352 : decode cL_law 352 = .ok (.invokevirtual 37, 3) := gz_d tdL_law_t3_ok 36 rfl
theorem dL_law_355 : decode cL_law 355 = .ok (.aload_n 2, 1) := gz_d tdL_law_t3_ok 37 rfl
theorem dL_law_356 : decode cL_law 356 = .ok (.aload_n 0, 1) := gz_d tdL_law_t3_ok 38 rfl
theorem dL_law_357 : decode cL_law 357 = .ok (.iload_n 3, 1) := gz_d tdL_law_t3_ok 39 rfl
theorem dL_law_358 : decode cL_law 358 = .ok (.iconst 1, 1) := gz_d tdL_law_t3_ok 40 rfl
theorem dL_law_359 : decode cL_law 359 = .ok (.iadd, 1) := gz_d tdL_law_t3_ok 41 rfl
theorem dL_law_360 : decode cL_law 360 = .ok (.iaload, 1) := gz_d tdL_law_t3_ok 42 rfl
theorem dL_law_361 : decode cL_law 361 = .ok (.aload_n 0, 1) := gz_d tdL_law_t3_ok 43 rfl
theorem dL_law_362 : decode cL_law 362 = .ok (.iload_n 3, 1) := gz_d tdL_law_t3_ok 44 rfl
theorem dL_law_363 : decode cL_law 363 = .ok (.iconst 2, 1) := gz_d tdL_law_t3_ok 45 rfl
theorem dL_law_364 : decode cL_law 364 = .ok (.iadd, 1) := gz_d tdL_law_t3_ok 46 rfl
theorem dL_law_365 : decode cL_law 365 = .ok (.iaload, 1) := gz_d tdL_law_t3_ok 47 rfl
theorem dL_law_366 : decode cL_law 366 = .ok (.aload_n 0, 1) := gz_d tdL_law_t3_ok 48 rfl
theorem dL_law_367 : decode cL_law 367 = .ok (.iload_n 3, 1) := gz_d tdL_law_t3_ok 49 rfl
theorem dL_law_368 : decode cL_law 368 = .ok (.iconst 3, 1) := gz_d tdL_law_t3_ok 50 rfl
theorem dL_law_369 : decode cL_law 369 = .ok (.iadd, 1) := gz_d tdL_law_t3_ok 51 rfl
theorem dL_law_370 : decode cL_law 370 = .ok (.iaload, 1) := gz_d tdL_law_t3_ok 52 rfl
theorem dL_law_371 : decode cL_law 371 = .ok (.aload_n 0, 1) := gz_d tdL_law_t3_ok 53 rfl
theorem dL_law_372 : decode cL_law 372 = .ok (.iload_n 3, 1) := gz_d tdL_law_t3_ok 54 rfl
theorem dL_law_373 : decode cL_law 373 = .ok (.iconst 4, 1) := gz_d tdL_law_t3_ok 55 rfl
theorem dL_law_374 : decode cL_law 374 = .ok (.iadd, 1) := gz_d tdL_law_t3_ok 56 rfl
theorem dL_law_375 : decode cL_law 375 = .ok (.iaload, 1) := gz_d tdL_law_t3_ok 57 rfl
theorem dL_law_376 : decode cL_law 376 = .ok (.invokevirtual 41, 3) := gz_d tdL_law_t3_ok 58 rfl
theorem dL_law_379 : decode cL_law 379 = .ok (.if_icmp .eq 406, 3) := gz_d tdL_law_t3_ok 59 rfl
def tdL_law_t4 : List (Nat × Instr × Nat) := [(382, .iconst 0, 1), (383, .ireturn, 1), (384, .aload_n 1, 1), (385, .aload_n 0, 1), (386, .iload_n 3, 1), (387, .iconst 1, 1), (388, .iadd, 1), (389, .iaload, 1), (390, .aload_n 0, 1), (391, .iload_n 3, 1), (392, .iconst 2, 1), (393, .iadd, 1), (394, .iaload, 1), (395, .aload_n 0, 1), (396, .iload_n 3, 1), (397, .iconst 3, 1), (398, .iadd, 1), (399, .iaload, 1), (400, .aload_n 0, 1), (401, .iload_n 3, 1), (402, .iconst 4, 1), (403, .iadd, 1), (404, .iaload, 1), (405, .invokevirtual 42, 3), (408, .aload_n 2, 1), (409, .aload_n 0, 1), (410, .iload_n 3, 1), (411, .iconst 1, 1), (412, .iadd, 1), (413, .iaload, 1), (414, .aload_n 0, 1), (415, .iload_n 3, 1), (416, .iconst 2, 1), (417, .iadd, 1), (418, .iaload, 1), (419, .aload_n 0, 1), (420, .iload_n 3, 1), (421, .iconst 3, 1), (422, .iadd, 1), (423, .iaload, 1), (424, .aload_n 0, 1), (425, .iload_n 3, 1), (426, .iconst 4, 1), (427, .iadd, 1), (428, .iaload, 1), (429, .invokevirtual 45, 3), (432, .if_icmp .eq 353, 3), (435, .iconst 0, 1), (436, .ireturn, 1), (437, .aload_n 1, 1), (438, .aload_n 0, 1), (439, .iload_n 3, 1), (440, .iconst 1, 1), (441, .iadd, 1), (442, .iaload, 1), (443, .aload_n 0, 1), (444, .iload_n 3, 1), (445, .iconst 2, 1), (446, .iadd, 1), (447, .iaload, 1)]
theorem tdL_law_t4_ok : gz_dec cL_law tdL_law_t4 = true := by decide +kernel
theorem dL_law_382 : decode cL_law 382 = .ok (.iconst 0, 1) := gz_d tdL_law_t4_ok 0 rfl
theorem dL_law_383 : decode cL_law 383 = .ok (.ireturn, 1) := gz_d tdL_law_t4_ok 1 rfl
theorem dL_law_384 : decode cL_law 384 = .ok (.aload_n 1, 1) := gz_d tdL_law_t4_ok 2 rfl
theorem dL_law_385 : decode cL_law 385 = .ok (.aload_n 0, 1) := gz_d tdL_law_t4_ok 3 rfl
theorem dL_law_386 : decode cL_law 386 = .ok (.iload_n 3, 1) := gz_d tdL_law_t4_ok 4 rfl
theorem dL_law_387 : decode cL_law 387 = .ok (.iconst 1, 1) := gz_d tdL_law_t4_ok 5 rfl
theorem dL_law_388 : decode cL_law 388 = .ok (.iadd, 1) := gz_d tdL_law_t4_ok 6 rfl
theorem dL_law_389 : decode cL_law 389 = .ok (.iaload, 1) := gz_d tdL_law_t4_ok 7 rfl
theorem dL_law_390 : decode cL_law 390 = .ok (.aload_n 0, 1) := gz_d tdL_law_t4_ok 8 rfl
theorem dL_law_391 : decode cL_law 391 = .ok (.iload_n 3, 1) := gz_d tdL_law_t4_ok 9 rfl
theorem dL_law_392 : decode cL_law 392 = .ok (.iconst 2, 1) := gz_d tdL_law_t4_ok 10 rfl
theorem dL_law_393 : decode cL_law 393 = .ok (.iadd, 1) := gz_d tdL_law_t4_ok 11 rfl
theorem dL_law_394 : decode cL_law 394 = .ok (.iaload, 1) := gz_d tdL_law_t4_ok 12 rfl
theorem dL_law_395 : decode cL_law 395 = .ok (.aload_n 0, 1) := gz_d tdL_law_t4_ok 13 rfl
theorem dL_law_396 : decode cL_law 396 = .ok (.iload_n 3, 1) := gz_d tdL_law_t4_ok 14 rfl
theorem dL_law_397 : decode cL_law 397 = .ok (.iconst 3, 1) := gz_d tdL_law_t4_ok 15 rfl
theorem dL_law_398 : decode cL_law 398 = .ok (.iadd, 1) := gz_d tdL_law_t4_ok 16 rfl
theorem dL_law_399 : decode cL_law 399 = .ok (.iaload, 1) := gz_d tdL_law_t4_ok 17 rfl
theorem dL_law_400 : decode cL_law 400 = .ok (.aload_n 0, 1) := gz_d tdL_law_t4_ok 18 rfl
theorem dL_law_401 : decode cL_law 401 = .ok (.iload_n 3, 1) := gz_d tdL_law_t4_ok 19 rfl
theorem dL_law_402 : decode cL_law 402 = .ok (.iconst 4, 1) := gz_d tdL_law_t4_ok 20 rfl
theorem dL_law_403 : decode cL_law 403 = .ok (.iadd, 1) := gz_d tdL_law_t4_ok 21 rfl
theorem dL_law_404 : decode cL_law 404 = .ok (.iaload, 1) := gz_d tdL_law_t4_ok 22 rfl
theorem dL_law_405 : decode cL_law 405 = .ok (.invokevirtual 42, 3) := gz_d tdL_law_t4_ok 23 rfl
theorem dL_law_408 : decode cL_law 408 = .ok (.aload_n 2, 1) := gz_d tdL_law_t4_ok 24 rfl
theorem dL_law_409 : decode cL_law 409 = .ok (.aload_n 0, 1) := gz_d tdL_law_t4_ok 25 rfl
theorem dL_law_410 : decode cL_law 410 = .ok (.iload_n 3, 1) := gz_d tdL_law_t4_ok 26 rfl
theorem dL_law_411 : decode cL_law 411 = .ok (.iconst 1, 1) := gz_d tdL_law_t4_ok 27 rfl
theorem dL_law_412 : decode cL_law 412 = .ok (.iadd, 1) := gz_d tdL_law_t4_ok 28 rfl
theorem dL_law_413 : decode cL_law 413 = .ok (.iaload, 1) := gz_d tdL_law_t4_ok 29 rfl
theorem dL_law_414 : decode cL_law 414 = .ok (.aload_n 0, 1) := gz_d tdL_law_t4_ok 30 rfl
theorem dL_law_415 : decode cL_law 415 = .ok (.iload_n 3, 1) := gz_d tdL_law_t4_ok 31 rfl
theorem dL_law_416 : decode cL_law 416 = .ok (.iconst 2, 1) := gz_d tdL_law_t4_ok 32 rfl
theorem dL_law_417 : decode cL_law 417 = .ok (.iadd, 1) := gz_d tdL_law_t4_ok 33 rfl
theorem dL_law_418 : decode cL_law 418 = .ok (.iaload, 1) := gz_d tdL_law_t4_ok 34 rfl
theorem dL_law_419 : decode cL_law 419 = .ok (.aload_n 0, 1) := gz_d tdL_law_t4_ok 35 rfl
theorem dL_law_420 : decode cL_law 420 = .ok (.iload_n 3, 1) := gz_d tdL_law_t4_ok 36 rfl
theorem dL_law_421 : decode cL_law 421 = .ok (.iconst 3, 1) := gz_d tdL_law_t4_ok 37 rfl
theorem dL_law_422 : decode cL_law 422 = .ok (.iadd, 1) := gz_d tdL_law_t4_ok 38 rfl
theorem dL_law_423 : decode cL_law 423 = .ok (.iaload, 1) := gz_d tdL_law_t4_ok 39 rfl
theorem dL_law_424 : decode cL_law 424 = .ok (.aload_n 0, 1) := gz_d tdL_law_t4_ok 40 rfl
theorem dL_law_425 : decode cL_law 425 = .ok (.iload_n 3, 1) := gz_d tdL_law_t4_ok 41 rfl
theorem dL_law_426 : decode cL_law 426 = .ok (.iconst 4, 1) := gz_d tdL_law_t4_ok 42 rfl
theorem dL_law_427 : decode cL_law 427 = .ok (.iadd, 1) := gz_d tdL_law_t4_ok 43 rfl
theorem dL_law_428 : decode cL_law 428 = .ok (.iaload, 1) := gz_d tdL_law_t4_ok 44 rfl
theorem dL_law_429 : decode cL_law 429 = .ok (.invokevirtual 45, 3) := gz_d tdL_law_t4_ok 45 rfl
theorem dL_law_432 : decode cL_law 432 = .ok (.if_icmp .eq 353, 3) := gz_d tdL_law_t4_ok 46 rfl
theorem dL_law_435 : decode cL_law 435 = .ok (.iconst 0, 1) := gz_d tdL_law_t4_ok 47 rfl
theorem dL_law_436 : decode cL_law 436 = .ok (.ireturn, 1) := gz_d tdL_law_t4_ok 48 rfl
theorem dL_law_437 : decode cL_law 437 = .ok (.aload_n 1, 1) := gz_d tdL_law_t4_ok 49 rfl
theorem dL_law_438 : decode cL_law 438 = .ok (.aload_n 0, 1) := gz_d tdL_law_t4_ok 50 rfl
theorem dL_law_439 : decode cL_law 439 = .ok (.iload_n 3, 1) := gz_d tdL_law_t4_ok 51 rfl
theorem dL_law_440 : decode cL_law 440 = .ok (.iconst 1, 1) := gz_d tdL_law_t4_ok 52 rfl
theorem dL_law_441 : decode cL_law 441 = .ok (.iadd, 1) := gz_d tdL_law_t4_ok 53 rfl
theorem dL_law_442 : decode cL_law 442 = .ok (.iaload, 1) := gz_d tdL_law_t4_ok 54 rfl
theorem dL_law_443 : decode cL_law 443 = .ok (.aload_n 0, 1) := gz_d tdL_law_t4_ok 55 rfl
theorem dL_law_444 : decode cL_law 444 = .ok (.iload_n 3, 1) := gz_d tdL_law_t4_ok 56 rfl
theorem dL_law_445 : decode cL_law 445 = .ok (.iconst 2, 1) := gz_d tdL_law_t4_ok 57 rfl
theorem dL_law_446 : decode cL_law 446 = .ok (.iadd, 1) := gz_d tdL_law_t4_ok 58 rfl
theorem dL_law_447 : decode cL_law 447 = .ok (.iaload, 1) := gz_d tdL_law_t4_ok 59 rfl
def tdL_law_t5 : List (Nat × Instr × Nat) := [(448, .aload_n 0, 1), (449, .iload_n 3, 1), (450, .iconst 3, 1), (451, .iadd, 1), (452, .iaload, 1), (453, .aload_n 0, 1), (454, .iload_n 3, 1), (455, .iconst 4, 1), (456, .iadd, 1), (457, .iaload, 1), (458, .aload_n 0, 1), (459, .iload_n 3, 1), (460, .iconst 5, 1), (461, .iadd, 1), (462, .iaload, 1), (463, .aload_n 0, 1), (464, .iload_n 3, 1), (465, .bipush 6, 2), (467, .iadd, 1), (468, .iaload, 1), (469, .invokevirtual 46, 3), (472, .aload_n 2, 1), (473, .aload_n 0, 1), (474, .iload_n 3, 1), (475, .iconst 1, 1), (476, .iadd, 1), (477, .iaload, 1), (478, .aload_n 0, 1), (479, .iload_n 3, 1), (480, .iconst 2, 1), (481, .iadd, 1), (482, .iaload, 1), (483, .aload_n 0, 1), (484, .iload_n 3, 1), (485, .iconst 3, 1), (486, .iadd, 1), (487, .iaload, 1), (488, .aload_n 0, 1), (489, .iload_n 3, 1), (490, .iconst 4, 1), (491, .iadd, 1), (492, .iaload, 1), (493, .aload_n 0, 1), (494, .iload_n 3, 1), (495, .iconst 5, 1), (496, .iadd, 1), (497, .iaload, 1), (498, .aload_n 0, 1), (499, .iload_n 3, 1), (500, .bipush 6, 2), (502, .iadd, 1), (503, .iaload, 1), (504, .invokevirtual 50, 3), (507, .if_icmp .eq 278, 3), (510, .iconst 0, 1), (511, .ireturn, 1), (512, .aload_n 1, 1), (513, .aload_n 0, 1), (514, .iload_n 3, 1), (515, .iconst 1, 1)]
theorem tdL_law_t5_ok : gz_dec cL_law tdL_law_t5 = true := by decide +kernel
theorem dL_law_448 : decode cL_law 448 = .ok (.aload_n 0, 1) := gz_d tdL_law_t5_ok 0 rfl
theorem dL_law_449 : decode cL_law 449 = .ok (.iload_n 3, 1) := gz_d tdL_law_t5_ok 1 rfl
theorem dL_law_450 : decode cL_law 450 = .ok (.iconst 3, 1) := gz_d tdL_law_t5_ok 2 rfl
theorem dL_law_451 : decode cL_law 451 = .ok (.iadd, 1) := gz_d tdL_law_t5_ok 3 rfl
theorem dL_law_452 : decode cL_law 452 = .ok (.iaload, 1) := gz_d tdL_law_t5_ok 4 rfl
theorem dL_law_453 : decode cL_law 453 = .ok (.aload_n 0, 1) := gz_d tdL_law_t5_ok 5 rfl
theorem dL_law_454 : decode cL_law 454 = .ok (.iload_n 3, 1) := gz_d tdL_law_t5_ok 6 rfl
theorem dL_law_455 : decode cL_law 455 = .ok (.iconst 4, 1) := gz_d tdL_law_t5_ok 7 rfl
theorem dL_law_456 : decode cL_law 456 = .ok (.iadd, 1) := gz_d tdL_law_t5_ok 8 rfl
theorem dL_law_457 : decode cL_law 457 = .ok (.iaload, 1) := gz_d tdL_law_t5_ok 9 rfl
theorem dL_law_458 : decode cL_law 458 = .ok (.aload_n 0, 1) := gz_d tdL_law_t5_ok 10 rfl
theorem dL_law_459 : decode cL_law 459 = .ok (.iload_n 3, 1) := gz_d tdL_law_t5_ok 11 rfl
theorem dL_law_460 : decode cL_law 460 = .ok (.iconst 5, 1) := gz_d tdL_law_t5_ok 12 rfl
theorem dL_law_461 : decode cL_law 461 = .ok (.iadd, 1) := gz_d tdL_law_t5_ok 13 rfl
theorem dL_law_462 : decode cL_law 462 = .ok (.iaload, 1) := gz_d tdL_law_t5_ok 14 rfl
theorem dL_law_463 : decode cL_law 463 = .ok (.aload_n 0, 1) := gz_d tdL_law_t5_ok 15 rfl
theorem dL_law_464 : decode cL_law 464 = .ok (.iload_n 3, 1) := gz_d tdL_law_t5_ok 16 rfl
theorem dL_law_465 : decode cL_law 465 = .ok (.bipush 6, 2) := gz_d tdL_law_t5_ok 17 rfl
theorem dL_law_467 : decode cL_law 467 = .ok (.iadd, 1) := gz_d tdL_law_t5_ok 18 rfl
theorem dL_law_468 : decode cL_law 468 = .ok (.iaload, 1) := gz_d tdL_law_t5_ok 19 rfl
theorem dL_law_469 : decode cL_law 469 = .ok (.invokevirtual 46, 3) := gz_d tdL_law_t5_ok 20 rfl
theorem dL_law_472 : decode cL_law 472 = .ok (.aload_n 2, 1) := gz_d tdL_law_t5_ok 21 rfl
theorem dL_law_473 : decode cL_law 473 = .ok (.aload_n 0, 1) := gz_d tdL_law_t5_ok 22 rfl
theorem dL_law_474 : decode cL_law 474 = .ok (.iload_n 3, 1) := gz_d tdL_law_t5_ok 23 rfl
theorem dL_law_475 : decode cL_law 475 = .ok (.iconst 1, 1) := gz_d tdL_law_t5_ok 24 rfl
theorem dL_law_476 : decode cL_law 476 = .ok (.iadd, 1) := gz_d tdL_law_t5_ok 25 rfl
theorem dL_law_477 : decode cL_law 477 = .ok (.iaload, 1) := gz_d tdL_law_t5_ok 26 rfl
theorem dL_law_478 : decode cL_law 478 = .ok (.aload_n 0, 1) := gz_d tdL_law_t5_ok 27 rfl
theorem dL_law_479 : decode cL_law 479 = .ok (.iload_n 3, 1) := gz_d tdL_law_t5_ok 28 rfl
theorem dL_law_480 : decode cL_law 480 = .ok (.iconst 2, 1) := gz_d tdL_law_t5_ok 29 rfl
theorem dL_law_481 : decode cL_law 481 = .ok (.iadd, 1) := gz_d tdL_law_t5_ok 30 rfl
theorem dL_law_482 : decode cL_law 482 = .ok (.iaload, 1) := gz_d tdL_law_t5_ok 31 rfl
theorem dL_law_483 : decode cL_law 483 = .ok (.aload_n 0, 1) := gz_d tdL_law_t5_ok 32 rfl
theorem dL_law_484 : decode cL_law 484 = .ok (.iload_n 3, 1) := gz_d tdL_law_t5_ok 33 rfl
theorem dL_law_485 : decode cL_law 485 = .ok (.iconst 3, 1) := gz_d tdL_law_t5_ok 34 rfl
theorem dL_law_486 : decode cL_law 486 = .ok (.iadd, 1) := gz_d tdL_law_t5_ok 35 rfl
theorem dL_law_487 : decode cL_law 487 = .ok (.iaload, 1) := gz_d tdL_law_t5_ok 36 rfl
theorem dL_law_488 : decode cL_law 488 = .ok (.aload_n 0, 1) := gz_d tdL_law_t5_ok 37 rfl
theorem dL_law_489 : decode cL_law 489 = .ok (.iload_n 3, 1) := gz_d tdL_law_t5_ok 38 rfl
theorem dL_law_490 : decode cL_law 490 = .ok (.iconst 4, 1) := gz_d tdL_law_t5_ok 39 rfl
theorem dL_law_491 : decode cL_law 491 = .ok (.iadd, 1) := gz_d tdL_law_t5_ok 40 rfl
theorem dL_law_492 : decode cL_law 492 = .ok (.iaload, 1) := gz_d tdL_law_t5_ok 41 rfl
theorem dL_law_493 : decode cL_law 493 = .ok (.aload_n 0, 1) := gz_d tdL_law_t5_ok 42 rfl
theorem dL_law_494 : decode cL_law 494 = .ok (.iload_n 3, 1) := gz_d tdL_law_t5_ok 43 rfl
theorem dL_law_495 : decode cL_law 495 = .ok (.iconst 5, 1) := gz_d tdL_law_t5_ok 44 rfl
theorem dL_law_496 : decode cL_law 496 = .ok (.iadd, 1) := gz_d tdL_law_t5_ok 45 rfl
theorem dL_law_497 : decode cL_law 497 = .ok (.iaload, 1) := gz_d tdL_law_t5_ok 46 rfl
theorem dL_law_498 : decode cL_law 498 = .ok (.aload_n 0, 1) := gz_d tdL_law_t5_ok 47 rfl
theorem dL_law_499 : decode cL_law 499 = .ok (.iload_n 3, 1) := gz_d tdL_law_t5_ok 48 rfl
theorem dL_law_500 : decode cL_law 500 = .ok (.bipush 6, 2) := gz_d tdL_law_t5_ok 49 rfl
theorem dL_law_502 : decode cL_law 502 = .ok (.iadd, 1) := gz_d tdL_law_t5_ok 50 rfl
theorem dL_law_503 : decode cL_law 503 = .ok (.iaload, 1) := gz_d tdL_law_t5_ok 51 rfl
theorem dL_law_504 : decode cL_law 504 = .ok (.invokevirtual 50, 3) := gz_d tdL_law_t5_ok 52 rfl
theorem dL_law_507 : decode cL_law 507 = .ok (.if_icmp .eq 278, 3) := gz_d tdL_law_t5_ok 53 rfl
theorem dL_law_510 : decode cL_law 510 = .ok (.iconst 0, 1) := gz_d tdL_law_t5_ok 54 rfl
theorem dL_law_511 : decode cL_law 511 = .ok (.ireturn, 1) := gz_d tdL_law_t5_ok 55 rfl
theorem dL_law_512 : decode cL_law 512 = .ok (.aload_n 1, 1) := gz_d tdL_law_t5_ok 56 rfl
theorem dL_law_513 : decode cL_law 513 = .ok (.aload_n 0, 1) := gz_d tdL_law_t5_ok 57 rfl
theorem dL_law_514 : decode cL_law 514 = .ok (.iload_n 3, 1) := gz_d tdL_law_t5_ok 58 rfl
theorem dL_law_515 : decode cL_law 515 = .ok (.iconst 1, 1) := gz_d tdL_law_t5_ok 59 rfl
def tdL_law_t6 : List (Nat × Instr × Nat) := [(516, .iadd, 1), (517, .iaload, 1), (518, .aload_n 0, 1), (519, .iload_n 3, 1), (520, .iconst 2, 1), (521, .iadd, 1), (522, .iaload, 1), (523, .invokevirtual 51, 3), (526, .aload_n 2, 1), (527, .aload_n 0, 1), (528, .iload_n 3, 1), (529, .iconst 1, 1), (530, .iadd, 1), (531, .iaload, 1), (532, .aload_n 0, 1), (533, .iload_n 3, 1), (534, .iconst 2, 1), (535, .iadd, 1), (536, .iaload, 1), (537, .invokevirtual 55, 3), (540, .lcmp, 1), (541, .ifCond .eq 244, 3), (544, .iconst 0, 1), (545, .ireturn, 1), (546, .aload_n 1, 1), (547, .aload_n 0, 1), (548, .iload_n 3, 1), (549, .iconst 1, 1), (550, .iadd, 1), (551, .iaload, 1), (552, .aload_n 0, 1), (553, .iload_n 3, 1), (554, .iconst 2, 1), (555, .iadd, 1), (556, .iaload, 1), (557, .invokevirtual 56, 3), (560, .aload_n 2, 1), (561, .aload_n 0, 1), (562, .iload_n 3, 1), (563, .iconst 1, 1), (564, .iadd, 1), (565, .iaload, 1), (566, .aload_n 0, 1), (567, .iload_n 3, 1), (568, .iconst 2, 1), (569, .iadd, 1), (570, .iaload, 1), (571, .invokevirtual 59, 3), (574, .lcmp, 1), (575, .ifCond .eq 210, 3), (578, .iconst 0, 1), (579, .ireturn, 1), (580, .aload_n 1, 1), (581, .aload_n 0, 1), (582, .iload_n 3, 1), (583, .iconst 1, 1), (584, .iadd, 1), (585, .iaload, 1), (586, .aload_n 0, 1), (587, .iload_n 3, 1)]
theorem tdL_law_t6_ok : gz_dec cL_law tdL_law_t6 = true := by decide +kernel
theorem dL_law_516 : decode cL_law 516 = .ok (.iadd, 1) := gz_d tdL_law_t6_ok 0 rfl
theorem dL_law_517 : decode cL_law 517 = .ok (.iaload, 1) := gz_d tdL_law_t6_ok 1 rfl
theorem dL_law_518 : decode cL_law 518 = .ok (.aload_n 0, 1) := gz_d tdL_law_t6_ok 2 rfl
theorem dL_law_519 : decode cL_law 519 = .ok (.iload_n 3, 1) := gz_d tdL_law_t6_ok 3 rfl
theorem dL_law_520 : decode cL_law 520 = .ok (.iconst 2, 1) := gz_d tdL_law_t6_ok 4 rfl
theorem dL_law_521 : decode cL_law 521 = .ok (.iadd, 1) := gz_d tdL_law_t6_ok 5 rfl
theorem dL_law_522 : decode cL_law 522 = .ok (.iaload, 1) := gz_d tdL_law_t6_ok 6 rfl
theorem dL_law_523 : decode cL_law 523 = .ok (.invokevirtual 51, 3) := gz_d tdL_law_t6_ok 7 rfl
theorem dL_law_526 : decode cL_law 526 = .ok (.aload_n 2, 1) := gz_d tdL_law_t6_ok 8 rfl
theorem dL_law_527 : decode cL_law 527 = .ok (.aload_n 0, 1) := gz_d tdL_law_t6_ok 9 rfl
theorem dL_law_528 : decode cL_law 528 = .ok (.iload_n 3, 1) := gz_d tdL_law_t6_ok 10 rfl
theorem dL_law_529 : decode cL_law 529 = .ok (.iconst 1, 1) := gz_d tdL_law_t6_ok 11 rfl
theorem dL_law_530 : decode cL_law 530 = .ok (.iadd, 1) := gz_d tdL_law_t6_ok 12 rfl
theorem dL_law_531 : decode cL_law 531 = .ok (.iaload, 1) := gz_d tdL_law_t6_ok 13 rfl
theorem dL_law_532 : decode cL_law 532 = .ok (.aload_n 0, 1) := gz_d tdL_law_t6_ok 14 rfl
theorem dL_law_533 : decode cL_law 533 = .ok (.iload_n 3, 1) := gz_d tdL_law_t6_ok 15 rfl
theorem dL_law_534 : decode cL_law 534 = .ok (.iconst 2, 1) := gz_d tdL_law_t6_ok 16 rfl
theorem dL_law_535 : decode cL_law 535 = .ok (.iadd, 1) := gz_d tdL_law_t6_ok 17 rfl
theorem dL_law_536 : decode cL_law 536 = .ok (.iaload, 1) := gz_d tdL_law_t6_ok 18 rfl
theorem dL_law_537 : decode cL_law 537 = .ok (.invokevirtual 55, 3) := gz_d tdL_law_t6_ok 19 rfl
theorem dL_law_540 : decode cL_law 540 = .ok (.lcmp, 1) := gz_d tdL_law_t6_ok 20 rfl
theorem dL_law_541 : decode cL_law 541 = .ok (.ifCond .eq 244, 3) := gz_d tdL_law_t6_ok 21 rfl
theorem dL_law_544 : decode cL_law 544 = .ok (.iconst 0, 1) := gz_d tdL_law_t6_ok 22 rfl
theorem dL_law_545 : decode cL_law 545 = .ok (.ireturn, 1) := gz_d tdL_law_t6_ok 23 rfl
theorem dL_law_546 : decode cL_law 546 = .ok (.aload_n 1, 1) := gz_d tdL_law_t6_ok 24 rfl
theorem dL_law_547 : decode cL_law 547 = .ok (.aload_n 0, 1) := gz_d tdL_law_t6_ok 25 rfl
theorem dL_law_548 : decode cL_law 548 = .ok (.iload_n 3, 1) := gz_d tdL_law_t6_ok 26 rfl
theorem dL_law_549 : decode cL_law 549 = .ok (.iconst 1, 1) := gz_d tdL_law_t6_ok 27 rfl
theorem dL_law_550 : decode cL_law 550 = .ok (.iadd, 1) := gz_d tdL_law_t6_ok 28 rfl
theorem dL_law_551 : decode cL_law 551 = .ok (.iaload, 1) := gz_d tdL_law_t6_ok 29 rfl
theorem dL_law_552 : decode cL_law 552 = .ok (.aload_n 0, 1) := gz_d tdL_law_t6_ok 30 rfl
theorem dL_law_553 : decode cL_law 553 = .ok (.iload_n 3, 1) := gz_d tdL_law_t6_ok 31 rfl
theorem dL_law_554 : decode cL_law 554 = .ok (.iconst 2, 1) := gz_d tdL_law_t6_ok 32 rfl
theorem dL_law_555 : decode cL_law 555 = .ok (.iadd, 1) := gz_d tdL_law_t6_ok 33 rfl
theorem dL_law_556 : decode cL_law 556 = .ok (.iaload, 1) := gz_d tdL_law_t6_ok 34 rfl
theorem dL_law_557 : decode cL_law 557 = .ok (.invokevirtual 56, 3) := gz_d tdL_law_t6_ok 35 rfl
theorem dL_law_560 : decode cL_law 560 = .ok (.aload_n 2, 1) := gz_d tdL_law_t6_ok 36 rfl
theorem dL_law_561 : decode cL_law 561 = .ok (.aload_n 0, 1) := gz_d tdL_law_t6_ok 37 rfl
theorem dL_law_562 : decode cL_law 562 = .ok (.iload_n 3, 1) := gz_d tdL_law_t6_ok 38 rfl
theorem dL_law_563 : decode cL_law 563 = .ok (.iconst 1, 1) := gz_d tdL_law_t6_ok 39 rfl
theorem dL_law_564 : decode cL_law 564 = .ok (.iadd, 1) := gz_d tdL_law_t6_ok 40 rfl
theorem dL_law_565 : decode cL_law 565 = .ok (.iaload, 1) := gz_d tdL_law_t6_ok 41 rfl
theorem dL_law_566 : decode cL_law 566 = .ok (.aload_n 0, 1) := gz_d tdL_law_t6_ok 42 rfl
theorem dL_law_567 : decode cL_law 567 = .ok (.iload_n 3, 1) := gz_d tdL_law_t6_ok 43 rfl
theorem dL_law_568 : decode cL_law 568 = .ok (.iconst 2, 1) := gz_d tdL_law_t6_ok 44 rfl
theorem dL_law_569 : decode cL_law 569 = .ok (.iadd, 1) := gz_d tdL_law_t6_ok 45 rfl
theorem dL_law_570 : decode cL_law 570 = .ok (.iaload, 1) := gz_d tdL_law_t6_ok 46 rfl
theorem dL_law_571 : decode cL_law 571 = .ok (.invokevirtual 59, 3) := gz_d tdL_law_t6_ok 47 rfl
theorem dL_law_574 : decode cL_law 574 = .ok (.lcmp, 1) := gz_d tdL_law_t6_ok 48 rfl
theorem dL_law_575 : decode cL_law 575 = .ok (.ifCond .eq 210, 3) := gz_d tdL_law_t6_ok 49 rfl
theorem dL_law_578 : decode cL_law 578 = .ok (.iconst 0, 1) := gz_d tdL_law_t6_ok 50 rfl
theorem dL_law_579 : decode cL_law 579 = .ok (.ireturn, 1) := gz_d tdL_law_t6_ok 51 rfl
theorem dL_law_580 : decode cL_law 580 = .ok (.aload_n 1, 1) := gz_d tdL_law_t6_ok 52 rfl
theorem dL_law_581 : decode cL_law 581 = .ok (.aload_n 0, 1) := gz_d tdL_law_t6_ok 53 rfl
theorem dL_law_582 : decode cL_law 582 = .ok (.iload_n 3, 1) := gz_d tdL_law_t6_ok 54 rfl
theorem dL_law_583 : decode cL_law 583 = .ok (.iconst 1, 1) := gz_d tdL_law_t6_ok 55 rfl
theorem dL_law_584 : decode cL_law 584 = .ok (.iadd, 1) := gz_d tdL_law_t6_ok 56 rfl
theorem dL_law_585 : decode cL_law 585 = .ok (.iaload, 1) := gz_d tdL_law_t6_ok 57 rfl
theorem dL_law_586 : decode cL_law 586 = .ok (.aload_n 0, 1) := gz_d tdL_law_t6_ok 58 rfl
theorem dL_law_587 : decode cL_law 587 = .ok (.iload_n 3, 1) := gz_d tdL_law_t6_ok 59 rfl
def tdL_law_t7 : List (Nat × Instr × Nat) := [(588, .iconst 2, 1), (589, .iadd, 1), (590, .iaload, 1), (591, .invokevirtual 60, 3), (594, .aload_n 2, 1), (595, .aload_n 0, 1), (596, .iload_n 3, 1), (597, .iconst 1, 1), (598, .iadd, 1), (599, .iaload, 1), (600, .aload_n 0, 1), (601, .iload_n 3, 1), (602, .iconst 2, 1), (603, .iadd, 1), (604, .iaload, 1), (605, .invokevirtual 63, 3), (608, .if_icmp .eq 177, 3), (611, .iconst 0, 1), (612, .ireturn, 1), (613, .aload_n 1, 1), (614, .aload_n 0, 1), (615, .iload_n 3, 1), (616, .iconst 1, 1), (617, .iadd, 1), (618, .iaload, 1), (619, .aload_n 0, 1), (620, .iload_n 3, 1), (621, .iconst 2, 1), (622, .iadd, 1), (623, .iaload, 1), (624, .aload_n 0, 1), (625, .iload_n 3, 1), (626, .iconst 3, 1), (627, .iadd, 1), (628, .iaload, 1), (629, .invokevirtual 64, 3), (632, .aload_n 2, 1), (633, .aload_n 0, 1), (634, .iload_n 3, 1), (635, .iconst 1, 1), (636, .iadd, 1), (637, .iaload, 1), (638, .aload_n 0, 1), (639, .iload_n 3, 1), (640, .iconst 2, 1), (641, .iadd, 1), (642, .iaload, 1), (643, .aload_n 0, 1), (644, .iload_n 3, 1), (645, .iconst 3, 1), (646, .iadd, 1), (647, .iaload, 1), (648, .invokevirtual 67, 3), (651, .if_icmp .eq 134, 3), (654, .iconst 0, 1), (655, .ireturn, 1), (656, .aload_n 1, 1), (657, .aload_n 0, 1), (658, .iload_n 3, 1), (659, .iconst 1, 1)]
theorem tdL_law_t7_ok : gz_dec cL_law tdL_law_t7 = true := by decide +kernel
theorem dL_law_588 : decode cL_law 588 = .ok (.iconst 2, 1) := gz_d tdL_law_t7_ok 0 rfl
theorem dL_law_589 : decode cL_law 589 = .ok (.iadd, 1) := gz_d tdL_law_t7_ok 1 rfl
theorem dL_law_590 : decode cL_law 590 = .ok (.iaload, 1) := gz_d tdL_law_t7_ok 2 rfl
theorem dL_law_591 : decode cL_law 591 = .ok (.invokevirtual 60, 3) := gz_d tdL_law_t7_ok 3 rfl
theorem dL_law_594 : decode cL_law 594 = .ok (.aload_n 2, 1) := gz_d tdL_law_t7_ok 4 rfl
theorem dL_law_595 : decode cL_law 595 = .ok (.aload_n 0, 1) := gz_d tdL_law_t7_ok 5 rfl
theorem dL_law_596 : decode cL_law 596 = .ok (.iload_n 3, 1) := gz_d tdL_law_t7_ok 6 rfl
theorem dL_law_597 : decode cL_law 597 = .ok (.iconst 1, 1) := gz_d tdL_law_t7_ok 7 rfl
theorem dL_law_598 : decode cL_law 598 = .ok (.iadd, 1) := gz_d tdL_law_t7_ok 8 rfl
theorem dL_law_599 : decode cL_law 599 = .ok (.iaload, 1) := gz_d tdL_law_t7_ok 9 rfl
theorem dL_law_600 : decode cL_law 600 = .ok (.aload_n 0, 1) := gz_d tdL_law_t7_ok 10 rfl
theorem dL_law_601 : decode cL_law 601 = .ok (.iload_n 3, 1) := gz_d tdL_law_t7_ok 11 rfl
theorem dL_law_602 : decode cL_law 602 = .ok (.iconst 2, 1) := gz_d tdL_law_t7_ok 12 rfl
theorem dL_law_603 : decode cL_law 603 = .ok (.iadd, 1) := gz_d tdL_law_t7_ok 13 rfl
theorem dL_law_604 : decode cL_law 604 = .ok (.iaload, 1) := gz_d tdL_law_t7_ok 14 rfl
theorem dL_law_605 : decode cL_law 605 = .ok (.invokevirtual 63, 3) := gz_d tdL_law_t7_ok 15 rfl
theorem dL_law_608 : decode cL_law 608 = .ok (.if_icmp .eq 177, 3) := gz_d tdL_law_t7_ok 16 rfl
theorem dL_law_611 : decode cL_law 611 = .ok (.iconst 0, 1) := gz_d tdL_law_t7_ok 17 rfl
theorem dL_law_612 : decode cL_law 612 = .ok (.ireturn, 1) := gz_d tdL_law_t7_ok 18 rfl
theorem dL_law_613 : decode cL_law 613 = .ok (.aload_n 1, 1) := gz_d tdL_law_t7_ok 19 rfl
theorem dL_law_614 : decode cL_law 614 = .ok (.aload_n 0, 1) := gz_d tdL_law_t7_ok 20 rfl
theorem dL_law_615 : decode cL_law 615 = .ok (.iload_n 3, 1) := gz_d tdL_law_t7_ok 21 rfl
theorem dL_law_616 : decode cL_law 616 = .ok (.iconst 1, 1) := gz_d tdL_law_t7_ok 22 rfl
theorem dL_law_617 : decode cL_law 617 = .ok (.iadd, 1) := gz_d tdL_law_t7_ok 23 rfl
theorem dL_law_618 : decode cL_law 618 = .ok (.iaload, 1) := gz_d tdL_law_t7_ok 24 rfl
theorem dL_law_619 : decode cL_law 619 = .ok (.aload_n 0, 1) := gz_d tdL_law_t7_ok 25 rfl
theorem dL_law_620 : decode cL_law 620 = .ok (.iload_n 3, 1) := gz_d tdL_law_t7_ok 26 rfl
theorem dL_law_621 : decode cL_law 621 = .ok (.iconst 2, 1) := gz_d tdL_law_t7_ok 27 rfl
theorem dL_law_622 : decode cL_law 622 = .ok (.iadd, 1) := gz_d tdL_law_t7_ok 28 rfl
theorem dL_law_623 : decode cL_law 623 = .ok (.iaload, 1) := gz_d tdL_law_t7_ok 29 rfl
theorem dL_law_624 : decode cL_law 624 = .ok (.aload_n 0, 1) := gz_d tdL_law_t7_ok 30 rfl
theorem dL_law_625 : decode cL_law 625 = .ok (.iload_n 3, 1) := gz_d tdL_law_t7_ok 31 rfl
theorem dL_law_626 : decode cL_law 626 = .ok (.iconst 3, 1) := gz_d tdL_law_t7_ok 32 rfl
theorem dL_law_627 : decode cL_law 627 = .ok (.iadd, 1) := gz_d tdL_law_t7_ok 33 rfl
theorem dL_law_628 : decode cL_law 628 = .ok (.iaload, 1) := gz_d tdL_law_t7_ok 34 rfl
theorem dL_law_629 : decode cL_law 629 = .ok (.invokevirtual 64, 3) := gz_d tdL_law_t7_ok 35 rfl
theorem dL_law_632 : decode cL_law 632 = .ok (.aload_n 2, 1) := gz_d tdL_law_t7_ok 36 rfl
theorem dL_law_633 : decode cL_law 633 = .ok (.aload_n 0, 1) := gz_d tdL_law_t7_ok 37 rfl
theorem dL_law_634 : decode cL_law 634 = .ok (.iload_n 3, 1) := gz_d tdL_law_t7_ok 38 rfl
theorem dL_law_635 : decode cL_law 635 = .ok (.iconst 1, 1) := gz_d tdL_law_t7_ok 39 rfl
theorem dL_law_636 : decode cL_law 636 = .ok (.iadd, 1) := gz_d tdL_law_t7_ok 40 rfl
theorem dL_law_637 : decode cL_law 637 = .ok (.iaload, 1) := gz_d tdL_law_t7_ok 41 rfl
theorem dL_law_638 : decode cL_law 638 = .ok (.aload_n 0, 1) := gz_d tdL_law_t7_ok 42 rfl
theorem dL_law_639 : decode cL_law 639 = .ok (.iload_n 3, 1) := gz_d tdL_law_t7_ok 43 rfl
theorem dL_law_640 : decode cL_law 640 = .ok (.iconst 2, 1) := gz_d tdL_law_t7_ok 44 rfl
theorem dL_law_641 : decode cL_law 641 = .ok (.iadd, 1) := gz_d tdL_law_t7_ok 45 rfl
theorem dL_law_642 : decode cL_law 642 = .ok (.iaload, 1) := gz_d tdL_law_t7_ok 46 rfl
theorem dL_law_643 : decode cL_law 643 = .ok (.aload_n 0, 1) := gz_d tdL_law_t7_ok 47 rfl
theorem dL_law_644 : decode cL_law 644 = .ok (.iload_n 3, 1) := gz_d tdL_law_t7_ok 48 rfl
theorem dL_law_645 : decode cL_law 645 = .ok (.iconst 3, 1) := gz_d tdL_law_t7_ok 49 rfl
theorem dL_law_646 : decode cL_law 646 = .ok (.iadd, 1) := gz_d tdL_law_t7_ok 50 rfl
theorem dL_law_647 : decode cL_law 647 = .ok (.iaload, 1) := gz_d tdL_law_t7_ok 51 rfl
theorem dL_law_648 : decode cL_law 648 = .ok (.invokevirtual 67, 3) := gz_d tdL_law_t7_ok 52 rfl
theorem dL_law_651 : decode cL_law 651 = .ok (.if_icmp .eq 134, 3) := gz_d tdL_law_t7_ok 53 rfl
theorem dL_law_654 : decode cL_law 654 = .ok (.iconst 0, 1) := gz_d tdL_law_t7_ok 54 rfl
theorem dL_law_655 : decode cL_law 655 = .ok (.ireturn, 1) := gz_d tdL_law_t7_ok 55 rfl
theorem dL_law_656 : decode cL_law 656 = .ok (.aload_n 1, 1) := gz_d tdL_law_t7_ok 56 rfl
theorem dL_law_657 : decode cL_law 657 = .ok (.aload_n 0, 1) := gz_d tdL_law_t7_ok 57 rfl
theorem dL_law_658 : decode cL_law 658 = .ok (.iload_n 3, 1) := gz_d tdL_law_t7_ok 58 rfl
theorem dL_law_659 : decode cL_law 659 = .ok (.iconst 1, 1) := gz_d tdL_law_t7_ok 59 rfl
def tdL_law_t8 : List (Nat × Instr × Nat) := [(660, .iadd, 1), (661, .iaload, 1), (662, .invokevirtual 68, 3), (665, .aload_n 2, 1), (666, .aload_n 0, 1), (667, .iload_n 3, 1), (668, .iconst 1, 1), (669, .iadd, 1), (670, .iaload, 1), (671, .invokevirtual 71, 3), (674, .if_icmp .eq 111, 3), (677, .iconst 0, 1), (678, .ireturn, 1), (679, .aload_n 1, 1), (680, .aload_n 0, 1), (681, .iload_n 3, 1), (682, .iconst 1, 1), (683, .iadd, 1), (684, .iaload, 1), (685, .invokevirtual 72, 3), (688, .aload_n 2, 1), (689, .aload_n 0, 1), (690, .iload_n 3, 1), (691, .iconst 1, 1), (692, .iadd, 1), (693, .iaload, 1), (694, .invokevirtual 75, 3), (697, .if_icmp .eq 88, 3), (700, .iconst 0, 1), (701, .ireturn, 1), (702, .aload_n 1, 1), (703, .aload_n 0, 1), (704, .iload_n 3, 1), (705, .iconst 1, 1), (706, .iadd, 1), (707, .iaload, 1), (708, .invokevirtual 76, 3), (711, .aload_n 2, 1), (712, .aload_n 0, 1), (713, .iload_n 3, 1), (714, .iconst 1, 1), (715, .iadd, 1), (716, .iaload, 1), (717, .invokevirtual 79, 3), (720, .if_icmp .eq 65, 3), (723, .iconst 0, 1), (724, .ireturn, 1), (725, .aload_n 1, 1), (726, .aload_n 0, 1), (727, .iload_n 3, 1), (728, .iconst 1, 1), (729, .iadd, 1), (730, .iaload, 1), (731, .invokevirtual 80, 3), (734, .aload_n 2, 1), (735, .aload_n 0, 1), (736, .iload_n 3, 1), (737, .iconst 1, 1), (738, .iadd, 1), (739, .iaload, 1)]
theorem tdL_law_t8_ok : gz_dec cL_law tdL_law_t8 = true := by decide +kernel
theorem dL_law_660 : decode cL_law 660 = .ok (.iadd, 1) := gz_d tdL_law_t8_ok 0 rfl
theorem dL_law_661 : decode cL_law 661 = .ok (.iaload, 1) := gz_d tdL_law_t8_ok 1 rfl
theorem dL_law_662 : decode cL_law 662 = .ok (.invokevirtual 68, 3) := gz_d tdL_law_t8_ok 2 rfl
theorem dL_law_665 : decode cL_law 665 = .ok (.aload_n 2, 1) := gz_d tdL_law_t8_ok 3 rfl
theorem dL_law_666 : decode cL_law 666 = .ok (.aload_n 0, 1) := gz_d tdL_law_t8_ok 4 rfl
theorem dL_law_667 : decode cL_law 667 = .ok (.iload_n 3, 1) := gz_d tdL_law_t8_ok 5 rfl
theorem dL_law_668 : decode cL_law 668 = .ok (.iconst 1, 1) := gz_d tdL_law_t8_ok 6 rfl
theorem dL_law_669 : decode cL_law 669 = .ok (.iadd, 1) := gz_d tdL_law_t8_ok 7 rfl
theorem dL_law_670 : decode cL_law 670 = .ok (.iaload, 1) := gz_d tdL_law_t8_ok 8 rfl
theorem dL_law_671 : decode cL_law 671 = .ok (.invokevirtual 71, 3) := gz_d tdL_law_t8_ok 9 rfl
theorem dL_law_674 : decode cL_law 674 = .ok (.if_icmp .eq 111, 3) := gz_d tdL_law_t8_ok 10 rfl
theorem dL_law_677 : decode cL_law 677 = .ok (.iconst 0, 1) := gz_d tdL_law_t8_ok 11 rfl
theorem dL_law_678 : decode cL_law 678 = .ok (.ireturn, 1) := gz_d tdL_law_t8_ok 12 rfl
theorem dL_law_679 : decode cL_law 679 = .ok (.aload_n 1, 1) := gz_d tdL_law_t8_ok 13 rfl
theorem dL_law_680 : decode cL_law 680 = .ok (.aload_n 0, 1) := gz_d tdL_law_t8_ok 14 rfl
theorem dL_law_681 : decode cL_law 681 = .ok (.iload_n 3, 1) := gz_d tdL_law_t8_ok 15 rfl
theorem dL_law_682 : decode cL_law 682 = .ok (.iconst 1, 1) := gz_d tdL_law_t8_ok 16 rfl
theorem dL_law_683 : decode cL_law 683 = .ok (.iadd, 1) := gz_d tdL_law_t8_ok 17 rfl
theorem dL_law_684 : decode cL_law 684 = .ok (.iaload, 1) := gz_d tdL_law_t8_ok 18 rfl
theorem dL_law_685 : decode cL_law 685 = .ok (.invokevirtual 72, 3) := gz_d tdL_law_t8_ok 19 rfl
theorem dL_law_688 : decode cL_law 688 = .ok (.aload_n 2, 1) := gz_d tdL_law_t8_ok 20 rfl
theorem dL_law_689 : decode cL_law 689 = .ok (.aload_n 0, 1) := gz_d tdL_law_t8_ok 21 rfl
theorem dL_law_690 : decode cL_law 690 = .ok (.iload_n 3, 1) := gz_d tdL_law_t8_ok 22 rfl
theorem dL_law_691 : decode cL_law 691 = .ok (.iconst 1, 1) := gz_d tdL_law_t8_ok 23 rfl
theorem dL_law_692 : decode cL_law 692 = .ok (.iadd, 1) := gz_d tdL_law_t8_ok 24 rfl
theorem dL_law_693 : decode cL_law 693 = .ok (.iaload, 1) := gz_d tdL_law_t8_ok 25 rfl
theorem dL_law_694 : decode cL_law 694 = .ok (.invokevirtual 75, 3) := gz_d tdL_law_t8_ok 26 rfl
theorem dL_law_697 : decode cL_law 697 = .ok (.if_icmp .eq 88, 3) := gz_d tdL_law_t8_ok 27 rfl
theorem dL_law_700 : decode cL_law 700 = .ok (.iconst 0, 1) := gz_d tdL_law_t8_ok 28 rfl
theorem dL_law_701 : decode cL_law 701 = .ok (.ireturn, 1) := gz_d tdL_law_t8_ok 29 rfl
theorem dL_law_702 : decode cL_law 702 = .ok (.aload_n 1, 1) := gz_d tdL_law_t8_ok 30 rfl
theorem dL_law_703 : decode cL_law 703 = .ok (.aload_n 0, 1) := gz_d tdL_law_t8_ok 31 rfl
theorem dL_law_704 : decode cL_law 704 = .ok (.iload_n 3, 1) := gz_d tdL_law_t8_ok 32 rfl
theorem dL_law_705 : decode cL_law 705 = .ok (.iconst 1, 1) := gz_d tdL_law_t8_ok 33 rfl
theorem dL_law_706 : decode cL_law 706 = .ok (.iadd, 1) := gz_d tdL_law_t8_ok 34 rfl
theorem dL_law_707 : decode cL_law 707 = .ok (.iaload, 1) := gz_d tdL_law_t8_ok 35 rfl
theorem dL_law_708 : decode cL_law 708 = .ok (.invokevirtual 76, 3) := gz_d tdL_law_t8_ok 36 rfl
theorem dL_law_711 : decode cL_law 711 = .ok (.aload_n 2, 1) := gz_d tdL_law_t8_ok 37 rfl
theorem dL_law_712 : decode cL_law 712 = .ok (.aload_n 0, 1) := gz_d tdL_law_t8_ok 38 rfl
theorem dL_law_713 : decode cL_law 713 = .ok (.iload_n 3, 1) := gz_d tdL_law_t8_ok 39 rfl
theorem dL_law_714 : decode cL_law 714 = .ok (.iconst 1, 1) := gz_d tdL_law_t8_ok 40 rfl
theorem dL_law_715 : decode cL_law 715 = .ok (.iadd, 1) := gz_d tdL_law_t8_ok 41 rfl
theorem dL_law_716 : decode cL_law 716 = .ok (.iaload, 1) := gz_d tdL_law_t8_ok 42 rfl
theorem dL_law_717 : decode cL_law 717 = .ok (.invokevirtual 79, 3) := gz_d tdL_law_t8_ok 43 rfl
theorem dL_law_720 : decode cL_law 720 = .ok (.if_icmp .eq 65, 3) := gz_d tdL_law_t8_ok 44 rfl
theorem dL_law_723 : decode cL_law 723 = .ok (.iconst 0, 1) := gz_d tdL_law_t8_ok 45 rfl
theorem dL_law_724 : decode cL_law 724 = .ok (.ireturn, 1) := gz_d tdL_law_t8_ok 46 rfl
theorem dL_law_725 : decode cL_law 725 = .ok (.aload_n 1, 1) := gz_d tdL_law_t8_ok 47 rfl
theorem dL_law_726 : decode cL_law 726 = .ok (.aload_n 0, 1) := gz_d tdL_law_t8_ok 48 rfl
theorem dL_law_727 : decode cL_law 727 = .ok (.iload_n 3, 1) := gz_d tdL_law_t8_ok 49 rfl
theorem dL_law_728 : decode cL_law 728 = .ok (.iconst 1, 1) := gz_d tdL_law_t8_ok 50 rfl
theorem dL_law_729 : decode cL_law 729 = .ok (.iadd, 1) := gz_d tdL_law_t8_ok 51 rfl
theorem dL_law_730 : decode cL_law 730 = .ok (.iaload, 1) := gz_d tdL_law_t8_ok 52 rfl
theorem dL_law_731 : decode cL_law 731 = .ok (.invokevirtual 80, 3) := gz_d tdL_law_t8_ok 53 rfl
theorem dL_law_734 : decode cL_law 734 = .ok (.aload_n 2, 1) := gz_d tdL_law_t8_ok 54 rfl
theorem dL_law_735 : decode cL_law 735 = .ok (.aload_n 0, 1) := gz_d tdL_law_t8_ok 55 rfl
theorem dL_law_736 : decode cL_law 736 = .ok (.iload_n 3, 1) := gz_d tdL_law_t8_ok 56 rfl
theorem dL_law_737 : decode cL_law 737 = .ok (.iconst 1, 1) := gz_d tdL_law_t8_ok 57 rfl
theorem dL_law_738 : decode cL_law 738 = .ok (.iadd, 1) := gz_d tdL_law_t8_ok 58 rfl
theorem dL_law_739 : decode cL_law 739 = .ok (.iaload, 1) := gz_d tdL_law_t8_ok 59 rfl
def tdL_law_t9 : List (Nat × Instr × Nat) := [(740, .invokevirtual 83, 3), (743, .if_icmp .eq 42, 3), (746, .iconst 0, 1), (747, .ireturn, 1), (748, .aload_n 1, 1), (749, .aload_n 0, 1), (750, .iload_n 3, 1), (751, .iconst 1, 1), (752, .iadd, 1), (753, .iaload, 1), (754, .invokevirtual 84, 3), (757, .aload_n 2, 1), (758, .aload_n 0, 1), (759, .iload_n 3, 1), (760, .iconst 1, 1), (761, .iadd, 1), (762, .iaload, 1), (763, .invokevirtual 87, 3), (766, .if_icmp .eq 19, 3), (769, .iconst 0, 1), (770, .ireturn, 1), (771, .aload_n 1, 1), (772, .invokevirtual 88, 3), (775, .aload_n 2, 1), (776, .invokevirtual 92, 3), (779, .lcmp, 1), (780, .ifCond .eq 5, 3), (783, .iconst 0, 1), (784, .ireturn, 1), (785, .iinc 3 7, 3), (788, .goto (-770), 3), (791, .iconst 1, 1), (792, .ireturn, 1)]
theorem tdL_law_t9_ok : gz_dec cL_law tdL_law_t9 = true := by decide +kernel
theorem dL_law_740 : decode cL_law 740 = .ok (.invokevirtual 83, 3) := gz_d tdL_law_t9_ok 0 rfl
theorem dL_law_743 : decode cL_law 743 = .ok (.if_icmp .eq 42, 3) := gz_d tdL_law_t9_ok 1 rfl
theorem dL_law_746 : decode cL_law 746 = .ok (.iconst 0, 1) := gz_d tdL_law_t9_ok 2 rfl
theorem dL_law_747 : decode cL_law 747 = .ok (.ireturn, 1) := gz_d tdL_law_t9_ok 3 rfl
theorem dL_law_748 : decode cL_law 748 = .ok (.aload_n 1, 1) := gz_d tdL_law_t9_ok 4 rfl
theorem dL_law_749 : decode cL_law 749 = .ok (.aload_n 0, 1) := gz_d tdL_law_t9_ok 5 rfl
theorem dL_law_750 : decode cL_law 750 = .ok (.iload_n 3, 1) := gz_d tdL_law_t9_ok 6 rfl
theorem dL_law_751 : decode cL_law 751 = .ok (.iconst 1, 1) := gz_d tdL_law_t9_ok 7 rfl
theorem dL_law_752 : decode cL_law 752 = .ok (.iadd, 1) := gz_d tdL_law_t9_ok 8 rfl
theorem dL_law_753 : decode cL_law 753 = .ok (.iaload, 1) := gz_d tdL_law_t9_ok 9 rfl
theorem dL_law_754 : decode cL_law 754 = .ok (.invokevirtual 84, 3) := gz_d tdL_law_t9_ok 10 rfl
theorem dL_law_757 : decode cL_law 757 = .ok (.aload_n 2, 1) := gz_d tdL_law_t9_ok 11 rfl
theorem dL_law_758 : decode cL_law 758 = .ok (.aload_n 0, 1) := gz_d tdL_law_t9_ok 12 rfl
theorem dL_law_759 : decode cL_law 759 = .ok (.iload_n 3, 1) := gz_d tdL_law_t9_ok 13 rfl
theorem dL_law_760 : decode cL_law 760 = .ok (.iconst 1, 1) := gz_d tdL_law_t9_ok 14 rfl
theorem dL_law_761 : decode cL_law 761 = .ok (.iadd, 1) := gz_d tdL_law_t9_ok 15 rfl
theorem dL_law_762 : decode cL_law 762 = .ok (.iaload, 1) := gz_d tdL_law_t9_ok 16 rfl
theorem dL_law_763 : decode cL_law 763 = .ok (.invokevirtual 87, 3) := gz_d tdL_law_t9_ok 17 rfl
theorem dL_law_766 : decode cL_law 766 = .ok (.if_icmp .eq 19, 3) := gz_d tdL_law_t9_ok 18 rfl
theorem dL_law_769 : decode cL_law 769 = .ok (.iconst 0, 1) := gz_d tdL_law_t9_ok 19 rfl
theorem dL_law_770 : decode cL_law 770 = .ok (.ireturn, 1) := gz_d tdL_law_t9_ok 20 rfl
theorem dL_law_771 : decode cL_law 771 = .ok (.aload_n 1, 1) := gz_d tdL_law_t9_ok 21 rfl
theorem dL_law_772 : decode cL_law 772 = .ok (.invokevirtual 88, 3) := gz_d tdL_law_t9_ok 22 rfl
theorem dL_law_775 : decode cL_law 775 = .ok (.aload_n 2, 1) := gz_d tdL_law_t9_ok 23 rfl
theorem dL_law_776 : decode cL_law 776 = .ok (.invokevirtual 92, 3) := gz_d tdL_law_t9_ok 24 rfl
theorem dL_law_779 : decode cL_law 779 = .ok (.lcmp, 1) := gz_d tdL_law_t9_ok 25 rfl
theorem dL_law_780 : decode cL_law 780 = .ok (.ifCond .eq 5, 3) := gz_d tdL_law_t9_ok 26 rfl
theorem dL_law_783 : decode cL_law 783 = .ok (.iconst 0, 1) := gz_d tdL_law_t9_ok 27 rfl
theorem dL_law_784 : decode cL_law 784 = .ok (.ireturn, 1) := gz_d tdL_law_t9_ok 28 rfl
theorem dL_law_785 : decode cL_law 785 = .ok (.iinc 3 7, 3) := gz_d tdL_law_t9_ok 29 rfl
theorem dL_law_788 : decode cL_law 788 = .ok (.goto (-770), 3) := gz_d tdL_law_t9_ok 30 rfl
theorem dL_law_791 : decode cL_law 791 = .ok (.iconst 1, 1) := gz_d tdL_law_t9_ok 31 rfl
theorem dL_law_792 : decode cL_law 792 = .ok (.ireturn, 1) := gz_d tdL_law_t9_ok 32 rfl

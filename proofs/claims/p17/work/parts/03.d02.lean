theorem dk_d02_212 : dkc cX8_run [(49, .iload 7, 2), (51, .ifCond .eq 9, 3), (54, .iload 7, 2), (56, .iconst 1, 1), (57, .if_icmp .ne 49, 3), (60, .iload 5, 2), (62, .aload 4, 2), (64, .arraylength, 1), (65, .if_icmp .ge 131, 3), (68, .iload 8, 2), (70, .ifCond .lt 126, 3), (73, .aload 4, 2), (75, .iload 5, 2), (77, .iload 7, 2), (79, .iconst 1, 1), (80, .if_icmp .ne 17, 3), (83, .iload 8, 2), (85, .aload_n 3, 1), (86, .arraylength, 1), (87, .if_icmp .ge 10, 3), (90, .aload_n 3, 1), (91, .iload 8, 2), (93, .iaload, 1), (94, .goto 5, 3), (97, .iload 8, 2)] = true := by decide +kernel
theorem dX8_run_49 : decode cX8_run 49 = .ok (.iload 7, 2) := dk_get dk_d02_212 0 rfl
theorem dX8_run_51 : decode cX8_run 51 = .ok (.ifCond .eq 9, 3) := dk_get dk_d02_212 1 rfl
theorem dX8_run_54 : decode cX8_run 54 = .ok (.iload 7, 2) := dk_get dk_d02_212 2 rfl
theorem dX8_run_56 : decode cX8_run 56 = .ok (.iconst 1, 1) := dk_get dk_d02_212 3 rfl
theorem dX8_run_57 : decode cX8_run 57 = .ok (.if_icmp .ne 49, 3) := dk_get dk_d02_212 4 rfl
theorem dX8_run_60 : decode cX8_run 60 = .ok (.iload 5, 2) := dk_get dk_d02_212 5 rfl
theorem dX8_run_62 : decode cX8_run 62 = .ok (.aload 4, 2) := dk_get dk_d02_212 6 rfl
theorem dX8_run_64 : decode cX8_run 64 = .ok (.arraylength, 1) := dk_get dk_d02_212 7 rfl
theorem dX8_run_65 : decode cX8_run 65 = .ok (.if_icmp .ge 131, 3) := dk_get dk_d02_212 8 rfl
theorem dX8_run_68 : decode cX8_run 68 = .ok (.iload 8, 2) := dk_get dk_d02_212 9 rfl
theorem dX8_run_70 : decode cX8_run 70 = .ok (.ifCond .lt 126, 3) := dk_get dk_d02_212 10 rfl
theorem dX8_run_73 : decode cX8_run 73 = .ok (.aload 4, 2) := dk_get dk_d02_212 11 rfl
theorem dX8_run_75 : decode cX8_run 75 = .ok (.iload 5, 2) := dk_get dk_d02_212 12 rfl
theorem dX8_run_77 : decode cX8_run 77 = .ok (.iload 7, 2) := dk_get dk_d02_212 13 rfl
theorem dX8_run_79 : decode cX8_run 79 = .ok (.iconst 1, 1) := dk_get dk_d02_212 14 rfl
theorem dX8_run_80 : decode cX8_run 80 = .ok (.if_icmp .ne 17, 3) := dk_get dk_d02_212 15 rfl
theorem dX8_run_83 : decode cX8_run 83 = .ok (.iload 8, 2) := dk_get dk_d02_212 16 rfl
theorem dX8_run_85 : decode cX8_run 85 = .ok (.aload_n 3, 1) := dk_get dk_d02_212 17 rfl
theorem dX8_run_86 : decode cX8_run 86 = .ok (.arraylength, 1) := dk_get dk_d02_212 18 rfl
theorem dX8_run_87 : decode cX8_run 87 = .ok (.if_icmp .ge 10, 3) := dk_get dk_d02_212 19 rfl
theorem dX8_run_90 : decode cX8_run 90 = .ok (.aload_n 3, 1) := dk_get dk_d02_212 20 rfl
theorem dX8_run_91 : decode cX8_run 91 = .ok (.iload 8, 2) := dk_get dk_d02_212 21 rfl
theorem dX8_run_93 : decode cX8_run 93 = .ok (.iaload, 1) := dk_get dk_d02_212 22 rfl
theorem dX8_run_94 : decode cX8_run 94 = .ok (.goto 5, 3) := dk_get dk_d02_212 23 rfl
theorem dX8_run_97 : decode cX8_run 97 = .ok (.iload 8, 2) := dk_get dk_d02_212 24 rfl
theorem dk_d02_213 : dkc cX8_run [(99, .iastore, 1), (100, .iinc 5 1, 3), (103, .goto 93, 3), (106, .iload 7, 2), (108, .iconst 2, 1), (109, .if_icmp .eq 9, 3), (112, .iload 7, 2), (114, .iconst 3, 1), (115, .if_icmp .ne 48, 3), (118, .iload 5, 2), (120, .ifCond .le 76, 3), (123, .aload 4, 2), (125, .iload 5, 2), (127, .iconst 1, 1), (128, .isub, 1), (129, .iload 7, 2), (131, .iconst 3, 1), (132, .if_icmp .ne 15, 3), (135, .iconst 1, 1), (136, .aload 4, 2), (138, .iload 5, 2), (140, .iconst 1, 1), (141, .isub, 1), (142, .iaload, 1), (143, .isub, 1)] = true := by decide +kernel
theorem dX8_run_99 : decode cX8_run 99 = .ok (.iastore, 1) := dk_get dk_d02_213 0 rfl
theorem dX8_run_100 : decode cX8_run 100 = .ok (.iinc 5 1, 3) := dk_get dk_d02_213 1 rfl
theorem dX8_run_103 : decode cX8_run 103 = .ok (.goto 93, 3) := dk_get dk_d02_213 2 rfl
theorem dX8_run_106 : decode cX8_run 106 = .ok (.iload 7, 2) := dk_get dk_d02_213 3 rfl
theorem dX8_run_108 : decode cX8_run 108 = .ok (.iconst 2, 1) := dk_get dk_d02_213 4 rfl
theorem dX8_run_109 : decode cX8_run 109 = .ok (.if_icmp .eq 9, 3) := dk_get dk_d02_213 5 rfl
theorem dX8_run_112 : decode cX8_run 112 = .ok (.iload 7, 2) := dk_get dk_d02_213 6 rfl
theorem dX8_run_114 : decode cX8_run 114 = .ok (.iconst 3, 1) := dk_get dk_d02_213 7 rfl
theorem dX8_run_115 : decode cX8_run 115 = .ok (.if_icmp .ne 48, 3) := dk_get dk_d02_213 8 rfl
theorem dX8_run_118 : decode cX8_run 118 = .ok (.iload 5, 2) := dk_get dk_d02_213 9 rfl
theorem dX8_run_120 : decode cX8_run 120 = .ok (.ifCond .le 76, 3) := dk_get dk_d02_213 10 rfl
theorem dX8_run_123 : decode cX8_run 123 = .ok (.aload 4, 2) := dk_get dk_d02_213 11 rfl
theorem dX8_run_125 : decode cX8_run 125 = .ok (.iload 5, 2) := dk_get dk_d02_213 12 rfl
theorem dX8_run_127 : decode cX8_run 127 = .ok (.iconst 1, 1) := dk_get dk_d02_213 13 rfl
theorem dX8_run_128 : decode cX8_run 128 = .ok (.isub, 1) := dk_get dk_d02_213 14 rfl
theorem dX8_run_129 : decode cX8_run 129 = .ok (.iload 7, 2) := dk_get dk_d02_213 15 rfl
theorem dX8_run_131 : decode cX8_run 131 = .ok (.iconst 3, 1) := dk_get dk_d02_213 16 rfl
theorem dX8_run_132 : decode cX8_run 132 = .ok (.if_icmp .ne 15, 3) := dk_get dk_d02_213 17 rfl
theorem dX8_run_135 : decode cX8_run 135 = .ok (.iconst 1, 1) := dk_get dk_d02_213 18 rfl
theorem dX8_run_136 : decode cX8_run 136 = .ok (.aload 4, 2) := dk_get dk_d02_213 19 rfl
theorem dX8_run_138 : decode cX8_run 138 = .ok (.iload 5, 2) := dk_get dk_d02_213 20 rfl
theorem dX8_run_140 : decode cX8_run 140 = .ok (.iconst 1, 1) := dk_get dk_d02_213 21 rfl
theorem dX8_run_141 : decode cX8_run 141 = .ok (.isub, 1) := dk_get dk_d02_213 22 rfl
theorem dX8_run_142 : decode cX8_run 142 = .ok (.iaload, 1) := dk_get dk_d02_213 23 rfl
theorem dX8_run_143 : decode cX8_run 143 = .ok (.isub, 1) := dk_get dk_d02_213 24 rfl
theorem dk_d02_214 : dkc cX8_run [(144, .goto 15, 3), (147, .aload 4, 2), (149, .iload 5, 2), (151, .iconst 1, 1), (152, .isub, 1), (153, .iaload, 1), (154, .iload 8, 2), (156, .invokestatic 35, 3), (159, .iastore, 1), (160, .goto 36, 3), (163, .iload 5, 2), (165, .iconst 1, 1), (166, .if_icmp .le 30, 3), (169, .iinc 5 (-1), 3), (172, .aload 4, 2), (174, .iload 5, 2), (176, .iconst 1, 1), (177, .isub, 1), (178, .iload 7, 2), (180, .aload 4, 2), (182, .iload 5, 2), (184, .iconst 1, 1), (185, .isub, 1), (186, .iaload, 1), (187, .aload 4, 2)] = true := by decide +kernel
theorem dX8_run_144 : decode cX8_run 144 = .ok (.goto 15, 3) := dk_get dk_d02_214 0 rfl
theorem dX8_run_147 : decode cX8_run 147 = .ok (.aload 4, 2) := dk_get dk_d02_214 1 rfl
theorem dX8_run_149 : decode cX8_run 149 = .ok (.iload 5, 2) := dk_get dk_d02_214 2 rfl
theorem dX8_run_151 : decode cX8_run 151 = .ok (.iconst 1, 1) := dk_get dk_d02_214 3 rfl
theorem dX8_run_152 : decode cX8_run 152 = .ok (.isub, 1) := dk_get dk_d02_214 4 rfl
theorem dX8_run_153 : decode cX8_run 153 = .ok (.iaload, 1) := dk_get dk_d02_214 5 rfl
theorem dX8_run_154 : decode cX8_run 154 = .ok (.iload 8, 2) := dk_get dk_d02_214 6 rfl
theorem dX8_run_156 : decode cX8_run 156 = .ok (.invokestatic 35, 3) := dk_get dk_d02_214 7 rfl
theorem dX8_run_159 : decode cX8_run 159 = .ok (.iastore, 1) := dk_get dk_d02_214 8 rfl
theorem dX8_run_160 : decode cX8_run 160 = .ok (.goto 36, 3) := dk_get dk_d02_214 9 rfl
theorem dX8_run_163 : decode cX8_run 163 = .ok (.iload 5, 2) := dk_get dk_d02_214 10 rfl
theorem dX8_run_165 : decode cX8_run 165 = .ok (.iconst 1, 1) := dk_get dk_d02_214 11 rfl
theorem dX8_run_166 : decode cX8_run 166 = .ok (.if_icmp .le 30, 3) := dk_get dk_d02_214 12 rfl
theorem dX8_run_169 : decode cX8_run 169 = .ok (.iinc 5 (-1), 3) := dk_get dk_d02_214 13 rfl
theorem dX8_run_172 : decode cX8_run 172 = .ok (.aload 4, 2) := dk_get dk_d02_214 14 rfl
theorem dX8_run_174 : decode cX8_run 174 = .ok (.iload 5, 2) := dk_get dk_d02_214 15 rfl
theorem dX8_run_176 : decode cX8_run 176 = .ok (.iconst 1, 1) := dk_get dk_d02_214 16 rfl
theorem dX8_run_177 : decode cX8_run 177 = .ok (.isub, 1) := dk_get dk_d02_214 17 rfl
theorem dX8_run_178 : decode cX8_run 178 = .ok (.iload 7, 2) := dk_get dk_d02_214 18 rfl
theorem dX8_run_180 : decode cX8_run 180 = .ok (.aload 4, 2) := dk_get dk_d02_214 19 rfl
theorem dX8_run_182 : decode cX8_run 182 = .ok (.iload 5, 2) := dk_get dk_d02_214 20 rfl
theorem dX8_run_184 : decode cX8_run 184 = .ok (.iconst 1, 1) := dk_get dk_d02_214 21 rfl
theorem dX8_run_185 : decode cX8_run 185 = .ok (.isub, 1) := dk_get dk_d02_214 22 rfl
theorem dX8_run_186 : decode cX8_run 186 = .ok (.iaload, 1) := dk_get dk_d02_214 23 rfl
theorem dX8_run_187 : decode cX8_run 187 = .ok (.aload 4, 2) := dk_get dk_d02_214 24 rfl
theorem dk_d02_215 : dkc cX8_run [(189, .iload 5, 2), (191, .iaload, 1), (192, .invokestatic 38, 3), (195, .iastore, 1), (196, .iinc 6 1, 3), (199, .goto (-189), 3), (202, .iload 5, 2), (204, .ifCond .le 10, 3), (207, .aload 4, 2), (209, .iconst 0, 1), (210, .iaload, 1), (211, .goto 4, 3), (214, .iconst 0, 1), (215, .ireturn, 1)] = true := by decide +kernel
theorem dX8_run_189 : decode cX8_run 189 = .ok (.iload 5, 2) := dk_get dk_d02_215 0 rfl
theorem dX8_run_191 : decode cX8_run 191 = .ok (.iaload, 1) := dk_get dk_d02_215 1 rfl
theorem dX8_run_192 : decode cX8_run 192 = .ok (.invokestatic 38, 3) := dk_get dk_d02_215 2 rfl
theorem dX8_run_195 : decode cX8_run 195 = .ok (.iastore, 1) := dk_get dk_d02_215 3 rfl
theorem dX8_run_196 : decode cX8_run 196 = .ok (.iinc 6 1, 3) := dk_get dk_d02_215 4 rfl
theorem dX8_run_199 : decode cX8_run 199 = .ok (.goto (-189), 3) := dk_get dk_d02_215 5 rfl
theorem dX8_run_202 : decode cX8_run 202 = .ok (.iload 5, 2) := dk_get dk_d02_215 6 rfl
theorem dX8_run_204 : decode cX8_run 204 = .ok (.ifCond .le 10, 3) := dk_get dk_d02_215 7 rfl
theorem dX8_run_207 : decode cX8_run 207 = .ok (.aload 4, 2) := dk_get dk_d02_215 8 rfl
theorem dX8_run_209 : decode cX8_run 209 = .ok (.iconst 0, 1) := dk_get dk_d02_215 9 rfl
theorem dX8_run_210 : decode cX8_run 210 = .ok (.iaload, 1) := dk_get dk_d02_215 10 rfl
theorem dX8_run_211 : decode cX8_run 211 = .ok (.goto 4, 3) := dk_get dk_d02_215 11 rfl
theorem dX8_run_214 : decode cX8_run 214 = .ok (.iconst 0, 1) := dk_get dk_d02_215 12 rfl
theorem dX8_run_215 : decode cX8_run 215 = .ok (.ireturn, 1) := dk_get dk_d02_215 13 rfl
theorem dk_d02_216 : dkc cX8_part [(0, .iload_n 1, 1), (1, .ifCond .ne 7, 3), (4, .iconst 0, 1), (5, .goto 6, 3), (8, .iload_n 0, 1), (9, .iload_n 1, 1), (10, .idiv, 1), (11, .ireturn, 1)] = true := by decide +kernel
theorem dX8_part_0 : decode cX8_part 0 = .ok (.iload_n 1, 1) := dk_get dk_d02_216 0 rfl
theorem dX8_part_1 : decode cX8_part 1 = .ok (.ifCond .ne 7, 3) := dk_get dk_d02_216 1 rfl
theorem dX8_part_4 : decode cX8_part 4 = .ok (.iconst 0, 1) := dk_get dk_d02_216 2 rfl
theorem dX8_part_5 : decode cX8_part 5 = .ok (.goto 6, 3) := dk_get dk_d02_216 3 rfl
theorem dX8_part_8 : decode cX8_part 8 = .ok (.iload_n 0, 1) := dk_get dk_d02_216 4 rfl
theorem dX8_part_9 : decode cX8_part 9 = .ok (.iload_n 1, 1) := dk_get dk_d02_216 5 rfl
theorem dX8_part_10 : decode cX8_part 10 = .ok (.idiv, 1) := dk_get dk_d02_216 6 rfl
theorem dX8_part_11 : decode cX8_part 11 = .ok (.ireturn, 1) := dk_get dk_d02_216 7 rfl
theorem dk_d02_217 : dkc cX8_join [(0, .iload_n 0, 1), (1, .tableswitch 92 4 10 #[43, 47, 51, 55, 66, 77, 88], 43), (44, .iload_n 1, 1), (45, .iload_n 2, 1), (46, .iadd, 1), (47, .ireturn, 1), (48, .iload_n 1, 1), (49, .iload_n 2, 1), (50, .isub, 1), (51, .ireturn, 1), (52, .iload_n 1, 1), (53, .iload_n 2, 1), (54, .imul, 1), (55, .ireturn, 1), (56, .iload_n 1, 1), (57, .iload_n 2, 1), (58, .if_icmp .ge 7, 3), (61, .iconst 1, 1), (62, .goto 4, 3), (65, .iconst 0, 1), (66, .ireturn, 1), (67, .iload_n 1, 1), (68, .iload_n 2, 1), (69, .if_icmp .ne 7, 3), (72, .iconst 1, 1)] = true := by decide +kernel
theorem dX8_join_0 : decode cX8_join 0 = .ok (.iload_n 0, 1) := dk_get dk_d02_217 0 rfl
theorem dX8_join_1 : decode cX8_join 1 = .ok (.tableswitch 92 4 10 #[43, 47, 51, 55, 66, 77, 88], 43) := dk_get dk_d02_217 1 rfl
theorem dX8_join_44 : decode cX8_join 44 = .ok (.iload_n 1, 1) := dk_get dk_d02_217 2 rfl
theorem dX8_join_45 : decode cX8_join 45 = .ok (.iload_n 2, 1) := dk_get dk_d02_217 3 rfl
theorem dX8_join_46 : decode cX8_join 46 = .ok (.iadd, 1) := dk_get dk_d02_217 4 rfl
theorem dX8_join_47 : decode cX8_join 47 = .ok (.ireturn, 1) := dk_get dk_d02_217 5 rfl
theorem dX8_join_48 : decode cX8_join 48 = .ok (.iload_n 1, 1) := dk_get dk_d02_217 6 rfl
theorem dX8_join_49 : decode cX8_join 49 = .ok (.iload_n 2, 1) := dk_get dk_d02_217 7 rfl
theorem dX8_join_50 : decode cX8_join 50 = .ok (.isub, 1) := dk_get dk_d02_217 8 rfl
theorem dX8_join_51 : decode cX8_join 51 = .ok (.ireturn, 1) := dk_get dk_d02_217 9 rfl
theorem dX8_join_52 : decode cX8_join 52 = .ok (.iload_n 1, 1) := dk_get dk_d02_217 10 rfl
theorem dX8_join_53 : decode cX8_join 53 = .ok (.iload_n 2, 1) := dk_get dk_d02_217 11 rfl
theorem dX8_join_54 : decode cX8_join 54 = .ok (.imul, 1) := dk_get dk_d02_217 12 rfl
theorem dX8_join_55 : decode cX8_join 55 = .ok (.ireturn, 1) := dk_get dk_d02_217 13 rfl
theorem dX8_join_56 : decode cX8_join 56 = .ok (.iload_n 1, 1) := dk_get dk_d02_217 14 rfl
theorem dX8_join_57 : decode cX8_join 57 = .ok (.iload_n 2, 1) := dk_get dk_d02_217 15 rfl
theorem dX8_join_58 : decode cX8_join 58 = .ok (.if_icmp .ge 7, 3) := dk_get dk_d02_217 16 rfl
theorem dX8_join_61 : decode cX8_join 61 = .ok (.iconst 1, 1) := dk_get dk_d02_217 17 rfl
theorem dX8_join_62 : decode cX8_join 62 = .ok (.goto 4, 3) := dk_get dk_d02_217 18 rfl
theorem dX8_join_65 : decode cX8_join 65 = .ok (.iconst 0, 1) := dk_get dk_d02_217 19 rfl
theorem dX8_join_66 : decode cX8_join 66 = .ok (.ireturn, 1) := dk_get dk_d02_217 20 rfl
theorem dX8_join_67 : decode cX8_join 67 = .ok (.iload_n 1, 1) := dk_get dk_d02_217 21 rfl
theorem dX8_join_68 : decode cX8_join 68 = .ok (.iload_n 2, 1) := dk_get dk_d02_217 22 rfl
theorem dX8_join_69 : decode cX8_join 69 = .ok (.if_icmp .ne 7, 3) := dk_get dk_d02_217 23 rfl
theorem dX8_join_72 : decode cX8_join 72 = .ok (.iconst 1, 1) := dk_get dk_d02_217 24 rfl
theorem dk_d02_218 : dkc cX8_join [(73, .goto 4, 3), (76, .iconst 0, 1), (77, .ireturn, 1), (78, .iload_n 1, 1), (79, .iload_n 2, 1), (80, .if_icmp .le 7, 3), (83, .iconst 1, 1), (84, .goto 4, 3), (87, .iconst 0, 1), (88, .ireturn, 1), (89, .iload_n 1, 1), (90, .iload_n 2, 1), (91, .iand, 1), (92, .ireturn, 1), (93, .iload_n 1, 1), (94, .iload_n 2, 1), (95, .ior, 1), (96, .ireturn, 1)] = true := by decide +kernel
theorem dX8_join_73 : decode cX8_join 73 = .ok (.goto 4, 3) := dk_get dk_d02_218 0 rfl
theorem dX8_join_76 : decode cX8_join 76 = .ok (.iconst 0, 1) := dk_get dk_d02_218 1 rfl
theorem dX8_join_77 : decode cX8_join 77 = .ok (.ireturn, 1) := dk_get dk_d02_218 2 rfl
theorem dX8_join_78 : decode cX8_join 78 = .ok (.iload_n 1, 1) := dk_get dk_d02_218 3 rfl
theorem dX8_join_79 : decode cX8_join 79 = .ok (.iload_n 2, 1) := dk_get dk_d02_218 4 rfl
theorem dX8_join_80 : decode cX8_join 80 = .ok (.if_icmp .le 7, 3) := dk_get dk_d02_218 5 rfl
theorem dX8_join_83 : decode cX8_join 83 = .ok (.iconst 1, 1) := dk_get dk_d02_218 6 rfl
theorem dX8_join_84 : decode cX8_join 84 = .ok (.goto 4, 3) := dk_get dk_d02_218 7 rfl
theorem dX8_join_87 : decode cX8_join 87 = .ok (.iconst 0, 1) := dk_get dk_d02_218 8 rfl
theorem dX8_join_88 : decode cX8_join 88 = .ok (.ireturn, 1) := dk_get dk_d02_218 9 rfl
theorem dX8_join_89 : decode cX8_join 89 = .ok (.iload_n 1, 1) := dk_get dk_d02_218 10 rfl
theorem dX8_join_90 : decode cX8_join 90 = .ok (.iload_n 2, 1) := dk_get dk_d02_218 11 rfl
theorem dX8_join_91 : decode cX8_join 91 = .ok (.iand, 1) := dk_get dk_d02_218 12 rfl
theorem dX8_join_92 : decode cX8_join 92 = .ok (.ireturn, 1) := dk_get dk_d02_218 13 rfl
theorem dX8_join_93 : decode cX8_join 93 = .ok (.iload_n 1, 1) := dk_get dk_d02_218 14 rfl
theorem dX8_join_94 : decode cX8_join 94 = .ok (.iload_n 2, 1) := dk_get dk_d02_218 15 rfl
theorem dX8_join_95 : decode cX8_join 95 = .ok (.ior, 1) := dk_get dk_d02_218 16 rfl
theorem dX8_join_96 : decode cX8_join 96 = .ok (.ireturn, 1) := dk_get dk_d02_218 17 rfl
theorem dk_d02_219 : dkc cX9_init [(0, .aload_n 0, 1), (1, .invokespecial 3, 3), (4, .aload_n 0, 1), (5, .iconst 0, 1), (6, .putfield 9, 3), (9, .aload_n 0, 1), (10, .iload_n 1, 1), (11, .iconst 0, 1), (12, .invokestatic 15, 3), (15, .newarray .int, 2), (17, .putfield 21, 3), (20, .return_, 1)] = true := by decide +kernel
theorem dX9_init_0 : decode cX9_init 0 = .ok (.aload_n 0, 1) := dk_get dk_d02_219 0 rfl
theorem dX9_init_1 : decode cX9_init 1 = .ok (.invokespecial 3, 3) := dk_get dk_d02_219 1 rfl
theorem dX9_init_4 : decode cX9_init 4 = .ok (.aload_n 0, 1) := dk_get dk_d02_219 2 rfl
theorem dX9_init_5 : decode cX9_init 5 = .ok (.iconst 0, 1) := dk_get dk_d02_219 3 rfl
theorem dX9_init_6 : decode cX9_init 6 = .ok (.putfield 9, 3) := dk_get dk_d02_219 4 rfl
theorem dX9_init_9 : decode cX9_init 9 = .ok (.aload_n 0, 1) := dk_get dk_d02_219 5 rfl
theorem dX9_init_10 : decode cX9_init 10 = .ok (.iload_n 1, 1) := dk_get dk_d02_219 6 rfl
theorem dX9_init_11 : decode cX9_init 11 = .ok (.iconst 0, 1) := dk_get dk_d02_219 7 rfl
theorem dX9_init_12 : decode cX9_init 12 = .ok (.invokestatic 15, 3) := dk_get dk_d02_219 8 rfl
theorem dX9_init_15 : decode cX9_init 15 = .ok (.newarray .int, 2) := dk_get dk_d02_219 9 rfl
theorem dX9_init_17 : decode cX9_init 17 = .ok (.putfield 21, 3) := dk_get dk_d02_219 10 rfl
theorem dX9_init_20 : decode cX9_init 20 = .ok (.return_, 1) := dk_get dk_d02_219 11 rfl
theorem dk_d02_220 : dkc cX9_add [(0, .aload_n 0, 1), (1, .getfield 9, 3), (4, .ifCond .lt 15, 3), (7, .aload_n 0, 1), (8, .getfield 9, 3), (11, .aload_n 0, 1), (12, .getfield 21, 3), (15, .arraylength, 1), (16, .if_icmp .lt 5, 3), (19, .iconst (-1), 1), (20, .ireturn, 1), (21, .aload_n 0, 1), (22, .getfield 21, 3), (25, .aload_n 0, 1), (26, .getfield 9, 3), (29, .iload_n 1, 1), (30, .iastore, 1), (31, .aload_n 0, 1), (32, .dup, 1), (33, .getfield 9, 3), (36, .iconst 1, 1), (37, .iadd, 1), (38, .putfield 9, 3), (41, .aload_n 0, 1), (42, .getfield 9, 3)] = true := by decide +kernel
theorem dX9_add_0 : decode cX9_add 0 = .ok (.aload_n 0, 1) := dk_get dk_d02_220 0 rfl
theorem dX9_add_1 : decode cX9_add 1 = .ok (.getfield 9, 3) := dk_get dk_d02_220 1 rfl
theorem dX9_add_4 : decode cX9_add 4 = .ok (.ifCond .lt 15, 3) := dk_get dk_d02_220 2 rfl
theorem dX9_add_7 : decode cX9_add 7 = .ok (.aload_n 0, 1) := dk_get dk_d02_220 3 rfl
theorem dX9_add_8 : decode cX9_add 8 = .ok (.getfield 9, 3) := dk_get dk_d02_220 4 rfl
theorem dX9_add_11 : decode cX9_add 11 = .ok (.aload_n 0, 1) := dk_get dk_d02_220 5 rfl
theorem dX9_add_12 : decode cX9_add 12 = .ok (.getfield 21, 3) := dk_get dk_d02_220 6 rfl
theorem dX9_add_15 : decode cX9_add 15 = .ok (.arraylength, 1) := dk_get dk_d02_220 7 rfl
theorem dX9_add_16 : decode cX9_add 16 = .ok (.if_icmp .lt 5, 3) := dk_get dk_d02_220 8 rfl
theorem dX9_add_19 : decode cX9_add 19 = .ok (.iconst (-1), 1) := dk_get dk_d02_220 9 rfl
theorem dX9_add_20 : decode cX9_add 20 = .ok (.ireturn, 1) := dk_get dk_d02_220 10 rfl
theorem dX9_add_21 : decode cX9_add 21 = .ok (.aload_n 0, 1) := dk_get dk_d02_220 11 rfl
theorem dX9_add_22 : decode cX9_add 22 = .ok (.getfield 21, 3) := dk_get dk_d02_220 12 rfl
theorem dX9_add_25 : decode cX9_add 25 = .ok (.aload_n 0, 1) := dk_get dk_d02_220 13 rfl
theorem dX9_add_26 : decode cX9_add 26 = .ok (.getfield 9, 3) := dk_get dk_d02_220 14 rfl
theorem dX9_add_29 : decode cX9_add 29 = .ok (.iload_n 1, 1) := dk_get dk_d02_220 15 rfl
theorem dX9_add_30 : decode cX9_add 30 = .ok (.iastore, 1) := dk_get dk_d02_220 16 rfl
theorem dX9_add_31 : decode cX9_add 31 = .ok (.aload_n 0, 1) := dk_get dk_d02_220 17 rfl
theorem dX9_add_32 : decode cX9_add 32 = .ok (.dup, 1) := dk_get dk_d02_220 18 rfl
theorem dX9_add_33 : decode cX9_add 33 = .ok (.getfield 9, 3) := dk_get dk_d02_220 19 rfl
theorem dX9_add_36 : decode cX9_add 36 = .ok (.iconst 1, 1) := dk_get dk_d02_220 20 rfl
theorem dX9_add_37 : decode cX9_add 37 = .ok (.iadd, 1) := dk_get dk_d02_220 21 rfl
theorem dX9_add_38 : decode cX9_add 38 = .ok (.putfield 9, 3) := dk_get dk_d02_220 22 rfl
theorem dX9_add_41 : decode cX9_add 41 = .ok (.aload_n 0, 1) := dk_get dk_d02_220 23 rfl
theorem dX9_add_42 : decode cX9_add 42 = .ok (.getfield 9, 3) := dk_get dk_d02_220 24 rfl
theorem dk_d02_221 : dkc cX9_add [(45, .ireturn, 1)] = true := by decide +kernel
theorem dX9_add_45 : decode cX9_add 45 = .ok (.ireturn, 1) := dk_get dk_d02_221 0 rfl
theorem dk_d02_222 : dkc cX9_item [(0, .iload_n 1, 1), (1, .ifCond .lt 29, 3), (4, .iload_n 1, 1), (5, .aload_n 0, 1), (6, .getfield 9, 3), (9, .if_icmp .ge 21, 3), (12, .iload_n 1, 1), (13, .aload_n 0, 1), (14, .getfield 21, 3), (17, .arraylength, 1), (18, .if_icmp .ge 12, 3), (21, .aload_n 0, 1), (22, .getfield 21, 3), (25, .iload_n 1, 1), (26, .iaload, 1), (27, .goto 4, 3), (30, .iconst 0, 1), (31, .ireturn, 1)] = true := by decide +kernel
theorem dX9_item_0 : decode cX9_item 0 = .ok (.iload_n 1, 1) := dk_get dk_d02_222 0 rfl
theorem dX9_item_1 : decode cX9_item 1 = .ok (.ifCond .lt 29, 3) := dk_get dk_d02_222 1 rfl
theorem dX9_item_4 : decode cX9_item 4 = .ok (.iload_n 1, 1) := dk_get dk_d02_222 2 rfl
theorem dX9_item_5 : decode cX9_item 5 = .ok (.aload_n 0, 1) := dk_get dk_d02_222 3 rfl
theorem dX9_item_6 : decode cX9_item 6 = .ok (.getfield 9, 3) := dk_get dk_d02_222 4 rfl
theorem dX9_item_9 : decode cX9_item 9 = .ok (.if_icmp .ge 21, 3) := dk_get dk_d02_222 5 rfl
theorem dX9_item_12 : decode cX9_item 12 = .ok (.iload_n 1, 1) := dk_get dk_d02_222 6 rfl
theorem dX9_item_13 : decode cX9_item 13 = .ok (.aload_n 0, 1) := dk_get dk_d02_222 7 rfl
theorem dX9_item_14 : decode cX9_item 14 = .ok (.getfield 21, 3) := dk_get dk_d02_222 8 rfl
theorem dX9_item_17 : decode cX9_item 17 = .ok (.arraylength, 1) := dk_get dk_d02_222 9 rfl
theorem dX9_item_18 : decode cX9_item 18 = .ok (.if_icmp .ge 12, 3) := dk_get dk_d02_222 10 rfl
theorem dX9_item_21 : decode cX9_item 21 = .ok (.aload_n 0, 1) := dk_get dk_d02_222 11 rfl
theorem dX9_item_22 : decode cX9_item 22 = .ok (.getfield 21, 3) := dk_get dk_d02_222 12 rfl
theorem dX9_item_25 : decode cX9_item 25 = .ok (.iload_n 1, 1) := dk_get dk_d02_222 13 rfl
theorem dX9_item_26 : decode cX9_item 26 = .ok (.iaload, 1) := dk_get dk_d02_222 14 rfl
theorem dX9_item_27 : decode cX9_item 27 = .ok (.goto 4, 3) := dk_get dk_d02_222 15 rfl
theorem dX9_item_30 : decode cX9_item 30 = .ok (.iconst 0, 1) := dk_get dk_d02_222 16 rfl
theorem dX9_item_31 : decode cX9_item 31 = .ok (.ireturn, 1) := dk_get dk_d02_222 17 rfl
theorem dk_d02_223 : dkc cX9_takeList [(0, .aload_n 0, 1), (1, .aload_n 1, 1), (2, .getfield 9, 3), (5, .aload_n 0, 1), (6, .getfield 21, 3), (9, .arraylength, 1), (10, .invokestatic 25, 3), (13, .putfield 9, 3), (16, .iconst 0, 1), (17, .istore_n 2, 1), (18, .iload_n 2, 1), (19, .aload_n 0, 1), (20, .getfield 9, 3), (23, .if_icmp .ge 20, 3), (26, .aload_n 0, 1), (27, .getfield 21, 3), (30, .iload_n 2, 1), (31, .aload_n 1, 1), (32, .iload_n 2, 1), (33, .invokevirtual 28, 3), (36, .iastore, 1), (37, .iinc 2 1, 3), (40, .goto (-22), 3), (43, .return_, 1)] = true := by decide +kernel
theorem dX9_takeList_0 : decode cX9_takeList 0 = .ok (.aload_n 0, 1) := dk_get dk_d02_223 0 rfl
theorem dX9_takeList_1 : decode cX9_takeList 1 = .ok (.aload_n 1, 1) := dk_get dk_d02_223 1 rfl
theorem dX9_takeList_2 : decode cX9_takeList 2 = .ok (.getfield 9, 3) := dk_get dk_d02_223 2 rfl
theorem dX9_takeList_5 : decode cX9_takeList 5 = .ok (.aload_n 0, 1) := dk_get dk_d02_223 3 rfl
theorem dX9_takeList_6 : decode cX9_takeList 6 = .ok (.getfield 21, 3) := dk_get dk_d02_223 4 rfl
theorem dX9_takeList_9 : decode cX9_takeList 9 = .ok (.arraylength, 1) := dk_get dk_d02_223 5 rfl
theorem dX9_takeList_10 : decode cX9_takeList 10 = .ok (.invokestatic 25, 3) := dk_get dk_d02_223 6 rfl
theorem dX9_takeList_13 : decode cX9_takeList 13 = .ok (.putfield 9, 3) := dk_get dk_d02_223 7 rfl
theorem dX9_takeList_16 : decode cX9_takeList 16 = .ok (.iconst 0, 1) := dk_get dk_d02_223 8 rfl
theorem dX9_takeList_17 : decode cX9_takeList 17 = .ok (.istore_n 2, 1) := dk_get dk_d02_223 9 rfl
theorem dX9_takeList_18 : decode cX9_takeList 18 = .ok (.iload_n 2, 1) := dk_get dk_d02_223 10 rfl
theorem dX9_takeList_19 : decode cX9_takeList 19 = .ok (.aload_n 0, 1) := dk_get dk_d02_223 11 rfl
theorem dX9_takeList_20 : decode cX9_takeList 20 = .ok (.getfield 9, 3) := dk_get dk_d02_223 12 rfl
theorem dX9_takeList_23 : decode cX9_takeList 23 = .ok (.if_icmp .ge 20, 3) := dk_get dk_d02_223 13 rfl
theorem dX9_takeList_26 : decode cX9_takeList 26 = .ok (.aload_n 0, 1) := dk_get dk_d02_223 14 rfl
theorem dX9_takeList_27 : decode cX9_takeList 27 = .ok (.getfield 21, 3) := dk_get dk_d02_223 15 rfl
theorem dX9_takeList_30 : decode cX9_takeList 30 = .ok (.iload_n 2, 1) := dk_get dk_d02_223 16 rfl
theorem dX9_takeList_31 : decode cX9_takeList 31 = .ok (.aload_n 1, 1) := dk_get dk_d02_223 17 rfl
theorem dX9_takeList_32 : decode cX9_takeList 32 = .ok (.iload_n 2, 1) := dk_get dk_d02_223 18 rfl
theorem dX9_takeList_33 : decode cX9_takeList 33 = .ok (.invokevirtual 28, 3) := dk_get dk_d02_223 19 rfl
theorem dX9_takeList_36 : decode cX9_takeList 36 = .ok (.iastore, 1) := dk_get dk_d02_223 20 rfl
theorem dX9_takeList_37 : decode cX9_takeList 37 = .ok (.iinc 2 1, 3) := dk_get dk_d02_223 21 rfl
theorem dX9_takeList_40 : decode cX9_takeList 40 = .ok (.goto (-22), 3) := dk_get dk_d02_223 22 rfl
theorem dX9_takeList_43 : decode cX9_takeList 43 = .ok (.return_, 1) := dk_get dk_d02_223 23 rfl
theorem dk_d02_224 : dkc cX10_init [(0, .aload_n 0, 1), (1, .invokespecial 3, 3), (4, .aload_n 0, 1), (5, .new 9, 3), (8, .dup, 1), (9, .invokespecial 11, 3), (12, .putfield 12, 3), (15, .aload_n 0, 1), (16, .new 18, 3), (19, .dup, 1), (20, .invokespecial 20, 3), (23, .putfield 21, 3), (26, .aload_n 0, 1), (27, .iconst 4, 1), (28, .anewarray 25, 3), (31, .putfield 27, 3), (34, .aload_n 0, 1), (35, .bipush 9, 2), (37, .anewarray 31, 3), (40, .putfield 33, 3), (43, .new 25, 3), (46, .dup, 1), (47, .iconst 0, 1), (48, .newarray .int, 2), (50, .iconst 0, 1)] = true := by decide +kernel
theorem dX10_init_0 : decode cX10_init 0 = .ok (.aload_n 0, 1) := dk_get dk_d02_224 0 rfl
theorem dX10_init_1 : decode cX10_init 1 = .ok (.invokespecial 3, 3) := dk_get dk_d02_224 1 rfl
theorem dX10_init_4 : decode cX10_init 4 = .ok (.aload_n 0, 1) := dk_get dk_d02_224 2 rfl
theorem dX10_init_5 : decode cX10_init 5 = .ok (.new 9, 3) := dk_get dk_d02_224 3 rfl
theorem dX10_init_8 : decode cX10_init 8 = .ok (.dup, 1) := dk_get dk_d02_224 4 rfl
theorem dX10_init_9 : decode cX10_init 9 = .ok (.invokespecial 11, 3) := dk_get dk_d02_224 5 rfl
theorem dX10_init_12 : decode cX10_init 12 = .ok (.putfield 12, 3) := dk_get dk_d02_224 6 rfl
theorem dX10_init_15 : decode cX10_init 15 = .ok (.aload_n 0, 1) := dk_get dk_d02_224 7 rfl
theorem dX10_init_16 : decode cX10_init 16 = .ok (.new 18, 3) := dk_get dk_d02_224 8 rfl
theorem dX10_init_19 : decode cX10_init 19 = .ok (.dup, 1) := dk_get dk_d02_224 9 rfl
theorem dX10_init_20 : decode cX10_init 20 = .ok (.invokespecial 20, 3) := dk_get dk_d02_224 10 rfl
theorem dX10_init_23 : decode cX10_init 23 = .ok (.putfield 21, 3) := dk_get dk_d02_224 11 rfl
theorem dX10_init_26 : decode cX10_init 26 = .ok (.aload_n 0, 1) := dk_get dk_d02_224 12 rfl
theorem dX10_init_27 : decode cX10_init 27 = .ok (.iconst 4, 1) := dk_get dk_d02_224 13 rfl
theorem dX10_init_28 : decode cX10_init 28 = .ok (.anewarray 25, 3) := dk_get dk_d02_224 14 rfl
theorem dX10_init_31 : decode cX10_init 31 = .ok (.putfield 27, 3) := dk_get dk_d02_224 15 rfl
theorem dX10_init_34 : decode cX10_init 34 = .ok (.aload_n 0, 1) := dk_get dk_d02_224 16 rfl
theorem dX10_init_35 : decode cX10_init 35 = .ok (.bipush 9, 2) := dk_get dk_d02_224 17 rfl
theorem dX10_init_37 : decode cX10_init 37 = .ok (.anewarray 31, 3) := dk_get dk_d02_224 18 rfl
theorem dX10_init_40 : decode cX10_init 40 = .ok (.putfield 33, 3) := dk_get dk_d02_224 19 rfl
theorem dX10_init_43 : decode cX10_init 43 = .ok (.new 25, 3) := dk_get dk_d02_224 20 rfl
theorem dX10_init_46 : decode cX10_init 46 = .ok (.dup, 1) := dk_get dk_d02_224 21 rfl
theorem dX10_init_47 : decode cX10_init 47 = .ok (.iconst 0, 1) := dk_get dk_d02_224 22 rfl
theorem dX10_init_48 : decode cX10_init 48 = .ok (.newarray .int, 2) := dk_get dk_d02_224 23 rfl
theorem dX10_init_50 : decode cX10_init 50 = .ok (.iconst 0, 1) := dk_get dk_d02_224 24 rfl
theorem dk_d02_225 : dkc cX10_init [(51, .iconst 0, 1), (52, .newarray .int, 2), (54, .invokespecial 37, 3), (57, .astore_n 1, 1), (58, .iconst 0, 1), (59, .istore_n 2, 1), (60, .iload_n 2, 1), (61, .iconst 4, 1), (62, .if_icmp .ge 16, 3), (65, .aload_n 0, 1), (66, .getfield 27, 3), (69, .iload_n 2, 1), (70, .aload_n 1, 1), (71, .aastore, 1), (72, .iinc 2 1, 3), (75, .goto (-15), 3), (78, .iconst 0, 1), (79, .istore_n 2, 1), (80, .iload_n 2, 1), (81, .bipush 9, 2), (83, .if_icmp .ge 27, 3), (86, .aload_n 0, 1), (87, .getfield 33, 3), (90, .iload_n 2, 1), (91, .new 31, 3)] = true := by decide +kernel
theorem dX10_init_51 : decode cX10_init 51 = .ok (.iconst 0, 1) := dk_get dk_d02_225 0 rfl
theorem dX10_init_52 : decode cX10_init 52 = .ok (.newarray .int, 2) := dk_get dk_d02_225 1 rfl
theorem dX10_init_54 : decode cX10_init 54 = .ok (.invokespecial 37, 3) := dk_get dk_d02_225 2 rfl
theorem dX10_init_57 : decode cX10_init 57 = .ok (.astore_n 1, 1) := dk_get dk_d02_225 3 rfl
theorem dX10_init_58 : decode cX10_init 58 = .ok (.iconst 0, 1) := dk_get dk_d02_225 4 rfl
theorem dX10_init_59 : decode cX10_init 59 = .ok (.istore_n 2, 1) := dk_get dk_d02_225 5 rfl
theorem dX10_init_60 : decode cX10_init 60 = .ok (.iload_n 2, 1) := dk_get dk_d02_225 6 rfl
theorem dX10_init_61 : decode cX10_init 61 = .ok (.iconst 4, 1) := dk_get dk_d02_225 7 rfl
theorem dX10_init_62 : decode cX10_init 62 = .ok (.if_icmp .ge 16, 3) := dk_get dk_d02_225 8 rfl
theorem dX10_init_65 : decode cX10_init 65 = .ok (.aload_n 0, 1) := dk_get dk_d02_225 9 rfl
theorem dX10_init_66 : decode cX10_init 66 = .ok (.getfield 27, 3) := dk_get dk_d02_225 10 rfl
theorem dX10_init_69 : decode cX10_init 69 = .ok (.iload_n 2, 1) := dk_get dk_d02_225 11 rfl
theorem dX10_init_70 : decode cX10_init 70 = .ok (.aload_n 1, 1) := dk_get dk_d02_225 12 rfl
theorem dX10_init_71 : decode cX10_init 71 = .ok (.aastore, 1) := dk_get dk_d02_225 13 rfl
theorem dX10_init_72 : decode cX10_init 72 = .ok (.iinc 2 1, 3) := dk_get dk_d02_225 14 rfl
theorem dX10_init_75 : decode cX10_init 75 = .ok (.goto (-15), 3) := dk_get dk_d02_225 15 rfl
theorem dX10_init_78 : decode cX10_init 78 = .ok (.iconst 0, 1) := dk_get dk_d02_225 16 rfl
theorem dX10_init_79 : decode cX10_init 79 = .ok (.istore_n 2, 1) := dk_get dk_d02_225 17 rfl
theorem dX10_init_80 : decode cX10_init 80 = .ok (.iload_n 2, 1) := dk_get dk_d02_225 18 rfl
theorem dX10_init_81 : decode cX10_init 81 = .ok (.bipush 9, 2) := dk_get dk_d02_225 19 rfl
theorem dX10_init_83 : decode cX10_init 83 = .ok (.if_icmp .ge 27, 3) := dk_get dk_d02_225 20 rfl
theorem dX10_init_86 : decode cX10_init 86 = .ok (.aload_n 0, 1) := dk_get dk_d02_225 21 rfl
theorem dX10_init_87 : decode cX10_init 87 = .ok (.getfield 33, 3) := dk_get dk_d02_225 22 rfl
theorem dX10_init_90 : decode cX10_init 90 = .ok (.iload_n 2, 1) := dk_get dk_d02_225 23 rfl
theorem dX10_init_91 : decode cX10_init 91 = .ok (.new 31, 3) := dk_get dk_d02_225 24 rfl
theorem dk_d02_226 : dkc cX10_init [(94, .dup, 1), (95, .getstatic 40, 3), (98, .iload_n 2, 1), (99, .iaload, 1), (100, .invokespecial 44, 3), (103, .aastore, 1), (104, .iinc 2 1, 3), (107, .goto (-27), 3), (110, .return_, 1)] = true := by decide +kernel
theorem dX10_init_94 : decode cX10_init 94 = .ok (.dup, 1) := dk_get dk_d02_226 0 rfl
theorem dX10_init_95 : decode cX10_init 95 = .ok (.getstatic 40, 3) := dk_get dk_d02_226 1 rfl
theorem dX10_init_98 : decode cX10_init 98 = .ok (.iload_n 2, 1) := dk_get dk_d02_226 2 rfl
theorem dX10_init_99 : decode cX10_init 99 = .ok (.iaload, 1) := dk_get dk_d02_226 3 rfl
theorem dX10_init_100 : decode cX10_init 100 = .ok (.invokespecial 44, 3) := dk_get dk_d02_226 4 rfl
theorem dX10_init_103 : decode cX10_init 103 = .ok (.aastore, 1) := dk_get dk_d02_226 5 rfl
theorem dX10_init_104 : decode cX10_init 104 = .ok (.iinc 2 1, 3) := dk_get dk_d02_226 6 rfl
theorem dX10_init_107 : decode cX10_init 107 = .ok (.goto (-27), 3) := dk_get dk_d02_226 7 rfl
theorem dX10_init_110 : decode cX10_init 110 = .ok (.return_, 1) := dk_get dk_d02_226 8 rfl
theorem dk_d02_227 : dkc cX10_takeAll [(0, .aload_n 0, 1), (1, .getfield 12, 3), (4, .aload_n 1, 1), (5, .getfield 12, 3), (8, .invokevirtual 47, 3), (11, .aload_n 0, 1), (12, .getfield 21, 3), (15, .aload_n 1, 1), (16, .getfield 21, 3), (19, .invokevirtual 51, 3), (22, .iconst 0, 1), (23, .istore_n 2, 1), (24, .iload_n 2, 1), (25, .iconst 4, 1), (26, .if_icmp .ge 21, 3), (29, .aload_n 0, 1), (30, .getfield 27, 3), (33, .iload_n 2, 1), (34, .aload_n 1, 1), (35, .getfield 27, 3), (38, .iload_n 2, 1), (39, .aaload, 1), (40, .aastore, 1), (41, .iinc 2 1, 3), (44, .goto (-20), 3)] = true := by decide +kernel
theorem dX10_takeAll_0 : decode cX10_takeAll 0 = .ok (.aload_n 0, 1) := dk_get dk_d02_227 0 rfl
theorem dX10_takeAll_1 : decode cX10_takeAll 1 = .ok (.getfield 12, 3) := dk_get dk_d02_227 1 rfl
theorem dX10_takeAll_4 : decode cX10_takeAll 4 = .ok (.aload_n 1, 1) := dk_get dk_d02_227 2 rfl
theorem dX10_takeAll_5 : decode cX10_takeAll 5 = .ok (.getfield 12, 3) := dk_get dk_d02_227 3 rfl
theorem dX10_takeAll_8 : decode cX10_takeAll 8 = .ok (.invokevirtual 47, 3) := dk_get dk_d02_227 4 rfl
theorem dX10_takeAll_11 : decode cX10_takeAll 11 = .ok (.aload_n 0, 1) := dk_get dk_d02_227 5 rfl
theorem dX10_takeAll_12 : decode cX10_takeAll 12 = .ok (.getfield 21, 3) := dk_get dk_d02_227 6 rfl
theorem dX10_takeAll_15 : decode cX10_takeAll 15 = .ok (.aload_n 1, 1) := dk_get dk_d02_227 7 rfl
theorem dX10_takeAll_16 : decode cX10_takeAll 16 = .ok (.getfield 21, 3) := dk_get dk_d02_227 8 rfl
theorem dX10_takeAll_19 : decode cX10_takeAll 19 = .ok (.invokevirtual 51, 3) := dk_get dk_d02_227 9 rfl
theorem dX10_takeAll_22 : decode cX10_takeAll 22 = .ok (.iconst 0, 1) := dk_get dk_d02_227 10 rfl
theorem dX10_takeAll_23 : decode cX10_takeAll 23 = .ok (.istore_n 2, 1) := dk_get dk_d02_227 11 rfl
theorem dX10_takeAll_24 : decode cX10_takeAll 24 = .ok (.iload_n 2, 1) := dk_get dk_d02_227 12 rfl
theorem dX10_takeAll_25 : decode cX10_takeAll 25 = .ok (.iconst 4, 1) := dk_get dk_d02_227 13 rfl
theorem dX10_takeAll_26 : decode cX10_takeAll 26 = .ok (.if_icmp .ge 21, 3) := dk_get dk_d02_227 14 rfl
theorem dX10_takeAll_29 : decode cX10_takeAll 29 = .ok (.aload_n 0, 1) := dk_get dk_d02_227 15 rfl
theorem dX10_takeAll_30 : decode cX10_takeAll 30 = .ok (.getfield 27, 3) := dk_get dk_d02_227 16 rfl
theorem dX10_takeAll_33 : decode cX10_takeAll 33 = .ok (.iload_n 2, 1) := dk_get dk_d02_227 17 rfl
theorem dX10_takeAll_34 : decode cX10_takeAll 34 = .ok (.aload_n 1, 1) := dk_get dk_d02_227 18 rfl
theorem dX10_takeAll_35 : decode cX10_takeAll 35 = .ok (.getfield 27, 3) := dk_get dk_d02_227 19 rfl
theorem dX10_takeAll_38 : decode cX10_takeAll 38 = .ok (.iload_n 2, 1) := dk_get dk_d02_227 20 rfl
theorem dX10_takeAll_39 : decode cX10_takeAll 39 = .ok (.aaload, 1) := dk_get dk_d02_227 21 rfl
theorem dX10_takeAll_40 : decode cX10_takeAll 40 = .ok (.aastore, 1) := dk_get dk_d02_227 22 rfl
theorem dX10_takeAll_41 : decode cX10_takeAll 41 = .ok (.iinc 2 1, 3) := dk_get dk_d02_227 23 rfl
theorem dX10_takeAll_44 : decode cX10_takeAll 44 = .ok (.goto (-20), 3) := dk_get dk_d02_227 24 rfl
theorem dk_d02_228 : dkc cX10_takeAll [(47, .iconst 0, 1), (48, .istore_n 2, 1), (49, .iload_n 2, 1), (50, .bipush 9, 2), (52, .if_icmp .ge 24, 3), (55, .aload_n 0, 1), (56, .getfield 33, 3), (59, .iload_n 2, 1), (60, .aaload, 1), (61, .aload_n 1, 1), (62, .getfield 33, 3), (65, .iload_n 2, 1), (66, .aaload, 1), (67, .invokevirtual 55, 3), (70, .iinc 2 1, 3), (73, .goto (-24), 3), (76, .return_, 1)] = true := by decide +kernel
theorem dX10_takeAll_47 : decode cX10_takeAll 47 = .ok (.iconst 0, 1) := dk_get dk_d02_228 0 rfl
theorem dX10_takeAll_48 : decode cX10_takeAll 48 = .ok (.istore_n 2, 1) := dk_get dk_d02_228 1 rfl
theorem dX10_takeAll_49 : decode cX10_takeAll 49 = .ok (.iload_n 2, 1) := dk_get dk_d02_228 2 rfl
theorem dX10_takeAll_50 : decode cX10_takeAll 50 = .ok (.bipush 9, 2) := dk_get dk_d02_228 3 rfl
theorem dX10_takeAll_52 : decode cX10_takeAll 52 = .ok (.if_icmp .ge 24, 3) := dk_get dk_d02_228 4 rfl
theorem dX10_takeAll_55 : decode cX10_takeAll 55 = .ok (.aload_n 0, 1) := dk_get dk_d02_228 5 rfl
theorem dX10_takeAll_56 : decode cX10_takeAll 56 = .ok (.getfield 33, 3) := dk_get dk_d02_228 6 rfl
theorem dX10_takeAll_59 : decode cX10_takeAll 59 = .ok (.iload_n 2, 1) := dk_get dk_d02_228 7 rfl
theorem dX10_takeAll_60 : decode cX10_takeAll 60 = .ok (.aaload, 1) := dk_get dk_d02_228 8 rfl
theorem dX10_takeAll_61 : decode cX10_takeAll 61 = .ok (.aload_n 1, 1) := dk_get dk_d02_228 9 rfl
theorem dX10_takeAll_62 : decode cX10_takeAll 62 = .ok (.getfield 33, 3) := dk_get dk_d02_228 10 rfl
theorem dX10_takeAll_65 : decode cX10_takeAll 65 = .ok (.iload_n 2, 1) := dk_get dk_d02_228 11 rfl
theorem dX10_takeAll_66 : decode cX10_takeAll 66 = .ok (.aaload, 1) := dk_get dk_d02_228 12 rfl
theorem dX10_takeAll_67 : decode cX10_takeAll 67 = .ok (.invokevirtual 55, 3) := dk_get dk_d02_228 13 rfl
theorem dX10_takeAll_70 : decode cX10_takeAll 70 = .ok (.iinc 2 1, 3) := dk_get dk_d02_228 14 rfl
theorem dX10_takeAll_73 : decode cX10_takeAll 73 = .ok (.goto (-24), 3) := dk_get dk_d02_228 15 rfl
theorem dX10_takeAll_76 : decode cX10_takeAll 76 = .ok (.return_, 1) := dk_get dk_d02_228 16 rfl
theorem dk_d02_229 : dkc cX10_tell [(0, .iload_n 1, 1), (1, .ifCond .lt 9, 3), (4, .iload_n 1, 1), (5, .bipush 9, 2), (7, .if_icmp .lt 5, 3), (10, .iconst (-1), 1), (11, .ireturn, 1), (12, .iload_n 2, 1), (13, .ifCond .eq 15, 3), (16, .aload_n 0, 1), (17, .getfield 33, 3), (20, .iload_n 1, 1), (21, .aaload, 1), (22, .iconst 0, 1), (23, .putfield 59, 3), (26, .iconst 0, 1), (27, .ireturn, 1), (28, .iload_n 3, 1), (29, .ifCond .eq 17, 3), (32, .aload_n 0, 1), (33, .getfield 33, 3), (36, .iload_n 1, 1), (37, .aaload, 1), (38, .iload 4, 2), (40, .invokevirtual 63, 3)] = true := by decide +kernel
theorem dX10_tell_0 : decode cX10_tell 0 = .ok (.iload_n 1, 1) := dk_get dk_d02_229 0 rfl
theorem dX10_tell_1 : decode cX10_tell 1 = .ok (.ifCond .lt 9, 3) := dk_get dk_d02_229 1 rfl
theorem dX10_tell_4 : decode cX10_tell 4 = .ok (.iload_n 1, 1) := dk_get dk_d02_229 2 rfl
theorem dX10_tell_5 : decode cX10_tell 5 = .ok (.bipush 9, 2) := dk_get dk_d02_229 3 rfl
theorem dX10_tell_7 : decode cX10_tell 7 = .ok (.if_icmp .lt 5, 3) := dk_get dk_d02_229 4 rfl
theorem dX10_tell_10 : decode cX10_tell 10 = .ok (.iconst (-1), 1) := dk_get dk_d02_229 5 rfl
theorem dX10_tell_11 : decode cX10_tell 11 = .ok (.ireturn, 1) := dk_get dk_d02_229 6 rfl
theorem dX10_tell_12 : decode cX10_tell 12 = .ok (.iload_n 2, 1) := dk_get dk_d02_229 7 rfl
theorem dX10_tell_13 : decode cX10_tell 13 = .ok (.ifCond .eq 15, 3) := dk_get dk_d02_229 8 rfl
theorem dX10_tell_16 : decode cX10_tell 16 = .ok (.aload_n 0, 1) := dk_get dk_d02_229 9 rfl
theorem dX10_tell_17 : decode cX10_tell 17 = .ok (.getfield 33, 3) := dk_get dk_d02_229 10 rfl
theorem dX10_tell_20 : decode cX10_tell 20 = .ok (.iload_n 1, 1) := dk_get dk_d02_229 11 rfl
theorem dX10_tell_21 : decode cX10_tell 21 = .ok (.aaload, 1) := dk_get dk_d02_229 12 rfl
theorem dX10_tell_22 : decode cX10_tell 22 = .ok (.iconst 0, 1) := dk_get dk_d02_229 13 rfl
theorem dX10_tell_23 : decode cX10_tell 23 = .ok (.putfield 59, 3) := dk_get dk_d02_229 14 rfl
theorem dX10_tell_26 : decode cX10_tell 26 = .ok (.iconst 0, 1) := dk_get dk_d02_229 15 rfl
theorem dX10_tell_27 : decode cX10_tell 27 = .ok (.ireturn, 1) := dk_get dk_d02_229 16 rfl
theorem dX10_tell_28 : decode cX10_tell 28 = .ok (.iload_n 3, 1) := dk_get dk_d02_229 17 rfl
theorem dX10_tell_29 : decode cX10_tell 29 = .ok (.ifCond .eq 17, 3) := dk_get dk_d02_229 18 rfl
theorem dX10_tell_32 : decode cX10_tell 32 = .ok (.aload_n 0, 1) := dk_get dk_d02_229 19 rfl
theorem dX10_tell_33 : decode cX10_tell 33 = .ok (.getfield 33, 3) := dk_get dk_d02_229 20 rfl
theorem dX10_tell_36 : decode cX10_tell 36 = .ok (.iload_n 1, 1) := dk_get dk_d02_229 21 rfl
theorem dX10_tell_37 : decode cX10_tell 37 = .ok (.aaload, 1) := dk_get dk_d02_229 22 rfl
theorem dX10_tell_38 : decode cX10_tell 38 = .ok (.iload 4, 2) := dk_get dk_d02_229 23 rfl
theorem dX10_tell_40 : decode cX10_tell 40 = .ok (.invokevirtual 63, 3) := dk_get dk_d02_229 24 rfl
theorem dk_d02_230 : dkc cX10_tell [(43, .goto 4, 3), (46, .iconst (-1), 1), (47, .ireturn, 1)] = true := by decide +kernel
theorem dX10_tell_43 : decode cX10_tell 43 = .ok (.goto 4, 3) := dk_get dk_d02_230 0 rfl
theorem dX10_tell_46 : decode cX10_tell 46 = .ok (.iconst (-1), 1) := dk_get dk_d02_230 1 rfl
theorem dX10_tell_47 : decode cX10_tell 47 = .ok (.ireturn, 1) := dk_get dk_d02_230 2 rfl
theorem dk_d02_231 : dkc cX10_linesOf [(0, .iload_n 1, 1), (1, .ifCond .lt 20, 3), (4, .iload_n 1, 1), (5, .iconst 4, 1), (6, .if_icmp .ge 15, 3), (9, .aload_n 0, 1), (10, .getfield 27, 3), (13, .iload_n 1, 1), (14, .aaload, 1), (15, .getfield 67, 3), (18, .goto 4, 3), (21, .iconst 0, 1), (22, .ireturn, 1)] = true := by decide +kernel
theorem dX10_linesOf_0 : decode cX10_linesOf 0 = .ok (.iload_n 1, 1) := dk_get dk_d02_231 0 rfl
theorem dX10_linesOf_1 : decode cX10_linesOf 1 = .ok (.ifCond .lt 20, 3) := dk_get dk_d02_231 1 rfl
theorem dX10_linesOf_4 : decode cX10_linesOf 4 = .ok (.iload_n 1, 1) := dk_get dk_d02_231 2 rfl
theorem dX10_linesOf_5 : decode cX10_linesOf 5 = .ok (.iconst 4, 1) := dk_get dk_d02_231 3 rfl
theorem dX10_linesOf_6 : decode cX10_linesOf 6 = .ok (.if_icmp .ge 15, 3) := dk_get dk_d02_231 4 rfl
theorem dX10_linesOf_9 : decode cX10_linesOf 9 = .ok (.aload_n 0, 1) := dk_get dk_d02_231 5 rfl
theorem dX10_linesOf_10 : decode cX10_linesOf 10 = .ok (.getfield 27, 3) := dk_get dk_d02_231 6 rfl
theorem dX10_linesOf_13 : decode cX10_linesOf 13 = .ok (.iload_n 1, 1) := dk_get dk_d02_231 7 rfl
theorem dX10_linesOf_14 : decode cX10_linesOf 14 = .ok (.aaload, 1) := dk_get dk_d02_231 8 rfl
theorem dX10_linesOf_15 : decode cX10_linesOf 15 = .ok (.getfield 67, 3) := dk_get dk_d02_231 9 rfl
theorem dX10_linesOf_18 : decode cX10_linesOf 18 = .ok (.goto 4, 3) := dk_get dk_d02_231 10 rfl
theorem dX10_linesOf_21 : decode cX10_linesOf 21 = .ok (.iconst 0, 1) := dk_get dk_d02_231 11 rfl
theorem dX10_linesOf_22 : decode cX10_linesOf 22 = .ok (.ireturn, 1) := dk_get dk_d02_231 12 rfl
theorem dk_d02_232 : dkc cX10_twinsOf [(0, .aload_n 0, 1), (1, .getfield 27, 3), (4, .iconst 3, 1), (5, .aaload, 1), (6, .astore_n 2, 1), (7, .iconst 0, 1), (8, .istore_n 3, 1), (9, .iconst 0, 1), (10, .istore 4, 2), (12, .iload 4, 2), (14, .aload_n 2, 1), (15, .getfield 67, 3), (18, .if_icmp .ge 53, 3), (21, .aload_n 2, 1), (22, .iload 4, 2), (24, .iconst 0, 1), (25, .invokevirtual 70, 3), (28, .istore 5, 2), (30, .aload_n 2, 1), (31, .iload 4, 2), (33, .iconst 1, 1), (34, .invokevirtual 70, 3), (37, .istore 6, 2), (39, .iload 5, 2), (41, .iload_n 1, 1)] = true := by decide +kernel
theorem dX10_twinsOf_0 : decode cX10_twinsOf 0 = .ok (.aload_n 0, 1) := dk_get dk_d02_232 0 rfl
theorem dX10_twinsOf_1 : decode cX10_twinsOf 1 = .ok (.getfield 27, 3) := dk_get dk_d02_232 1 rfl
theorem dX10_twinsOf_4 : decode cX10_twinsOf 4 = .ok (.iconst 3, 1) := dk_get dk_d02_232 2 rfl
theorem dX10_twinsOf_5 : decode cX10_twinsOf 5 = .ok (.aaload, 1) := dk_get dk_d02_232 3 rfl
theorem dX10_twinsOf_6 : decode cX10_twinsOf 6 = .ok (.astore_n 2, 1) := dk_get dk_d02_232 4 rfl
theorem dX10_twinsOf_7 : decode cX10_twinsOf 7 = .ok (.iconst 0, 1) := dk_get dk_d02_232 5 rfl
theorem dX10_twinsOf_8 : decode cX10_twinsOf 8 = .ok (.istore_n 3, 1) := dk_get dk_d02_232 6 rfl
theorem dX10_twinsOf_9 : decode cX10_twinsOf 9 = .ok (.iconst 0, 1) := dk_get dk_d02_232 7 rfl
theorem dX10_twinsOf_10 : decode cX10_twinsOf 10 = .ok (.istore 4, 2) := dk_get dk_d02_232 8 rfl
theorem dX10_twinsOf_12 : decode cX10_twinsOf 12 = .ok (.iload 4, 2) := dk_get dk_d02_232 9 rfl
theorem dX10_twinsOf_14 : decode cX10_twinsOf 14 = .ok (.aload_n 2, 1) := dk_get dk_d02_232 10 rfl
theorem dX10_twinsOf_15 : decode cX10_twinsOf 15 = .ok (.getfield 67, 3) := dk_get dk_d02_232 11 rfl
theorem dX10_twinsOf_18 : decode cX10_twinsOf 18 = .ok (.if_icmp .ge 53, 3) := dk_get dk_d02_232 12 rfl
theorem dX10_twinsOf_21 : decode cX10_twinsOf 21 = .ok (.aload_n 2, 1) := dk_get dk_d02_232 13 rfl
theorem dX10_twinsOf_22 : decode cX10_twinsOf 22 = .ok (.iload 4, 2) := dk_get dk_d02_232 14 rfl
theorem dX10_twinsOf_24 : decode cX10_twinsOf 24 = .ok (.iconst 0, 1) := dk_get dk_d02_232 15 rfl
theorem dX10_twinsOf_25 : decode cX10_twinsOf 25 = .ok (.invokevirtual 70, 3) := dk_get dk_d02_232 16 rfl
theorem dX10_twinsOf_28 : decode cX10_twinsOf 28 = .ok (.istore 5, 2) := dk_get dk_d02_232 17 rfl
theorem dX10_twinsOf_30 : decode cX10_twinsOf 30 = .ok (.aload_n 2, 1) := dk_get dk_d02_232 18 rfl
theorem dX10_twinsOf_31 : decode cX10_twinsOf 31 = .ok (.iload 4, 2) := dk_get dk_d02_232 19 rfl
theorem dX10_twinsOf_33 : decode cX10_twinsOf 33 = .ok (.iconst 1, 1) := dk_get dk_d02_232 20 rfl
theorem dX10_twinsOf_34 : decode cX10_twinsOf 34 = .ok (.invokevirtual 70, 3) := dk_get dk_d02_232 21 rfl
theorem dX10_twinsOf_37 : decode cX10_twinsOf 37 = .ok (.istore 6, 2) := dk_get dk_d02_232 22 rfl
theorem dX10_twinsOf_39 : decode cX10_twinsOf 39 = .ok (.iload 5, 2) := dk_get dk_d02_232 23 rfl
theorem dX10_twinsOf_41 : decode cX10_twinsOf 41 = .ok (.iload_n 1, 1) := dk_get dk_d02_232 24 rfl
theorem dk_d02_233 : dkc cX10_twinsOf [(42, .if_icmp .ne 10, 3), (45, .iload_n 3, 1), (46, .iconst 1, 1), (47, .iload 6, 2), (49, .ishl, 1), (50, .ior, 1), (51, .istore_n 3, 1), (52, .iload 6, 2), (54, .iload_n 1, 1), (55, .if_icmp .ne 10, 3), (58, .iload_n 3, 1), (59, .iconst 1, 1), (60, .iload 5, 2), (62, .ishl, 1), (63, .ior, 1), (64, .istore_n 3, 1), (65, .iinc 4 1, 3), (68, .goto (-56), 3), (71, .iload_n 3, 1), (72, .ireturn, 1)] = true := by decide +kernel
theorem dX10_twinsOf_42 : decode cX10_twinsOf 42 = .ok (.if_icmp .ne 10, 3) := dk_get dk_d02_233 0 rfl
theorem dX10_twinsOf_45 : decode cX10_twinsOf 45 = .ok (.iload_n 3, 1) := dk_get dk_d02_233 1 rfl
theorem dX10_twinsOf_46 : decode cX10_twinsOf 46 = .ok (.iconst 1, 1) := dk_get dk_d02_233 2 rfl
theorem dX10_twinsOf_47 : decode cX10_twinsOf 47 = .ok (.iload 6, 2) := dk_get dk_d02_233 3 rfl
theorem dX10_twinsOf_49 : decode cX10_twinsOf 49 = .ok (.ishl, 1) := dk_get dk_d02_233 4 rfl
theorem dX10_twinsOf_50 : decode cX10_twinsOf 50 = .ok (.ior, 1) := dk_get dk_d02_233 5 rfl
theorem dX10_twinsOf_51 : decode cX10_twinsOf 51 = .ok (.istore_n 3, 1) := dk_get dk_d02_233 6 rfl
theorem dX10_twinsOf_52 : decode cX10_twinsOf 52 = .ok (.iload 6, 2) := dk_get dk_d02_233 7 rfl
theorem dX10_twinsOf_54 : decode cX10_twinsOf 54 = .ok (.iload_n 1, 1) := dk_get dk_d02_233 8 rfl
theorem dX10_twinsOf_55 : decode cX10_twinsOf 55 = .ok (.if_icmp .ne 10, 3) := dk_get dk_d02_233 9 rfl
theorem dX10_twinsOf_58 : decode cX10_twinsOf 58 = .ok (.iload_n 3, 1) := dk_get dk_d02_233 10 rfl
theorem dX10_twinsOf_59 : decode cX10_twinsOf 59 = .ok (.iconst 1, 1) := dk_get dk_d02_233 11 rfl
theorem dX10_twinsOf_60 : decode cX10_twinsOf 60 = .ok (.iload 5, 2) := dk_get dk_d02_233 12 rfl
theorem dX10_twinsOf_62 : decode cX10_twinsOf 62 = .ok (.ishl, 1) := dk_get dk_d02_233 13 rfl
theorem dX10_twinsOf_63 : decode cX10_twinsOf 63 = .ok (.ior, 1) := dk_get dk_d02_233 14 rfl
theorem dX10_twinsOf_64 : decode cX10_twinsOf 64 = .ok (.istore_n 3, 1) := dk_get dk_d02_233 15 rfl
theorem dX10_twinsOf_65 : decode cX10_twinsOf 65 = .ok (.iinc 4 1, 3) := dk_get dk_d02_233 16 rfl
theorem dX10_twinsOf_68 : decode cX10_twinsOf 68 = .ok (.goto (-56), 3) := dk_get dk_d02_233 17 rfl
theorem dX10_twinsOf_71 : decode cX10_twinsOf 71 = .ok (.iload_n 3, 1) := dk_get dk_d02_233 18 rfl
theorem dX10_twinsOf_72 : decode cX10_twinsOf 72 = .ok (.ireturn, 1) := dk_get dk_d02_233 19 rfl
theorem dk_d02_234 : dkc cX10_takenFor [(0, .iconst 1, 1), (1, .iload_n 1, 1), (2, .ishl, 1), (3, .istore_n 2, 1), (4, .iconst 0, 1), (5, .istore_n 3, 1), (6, .iload_n 3, 1), (7, .bipush 20, 2), (9, .if_icmp .ge 60, 3), (12, .iload_n 2, 1), (13, .istore 4, 2), (15, .iconst 0, 1), (16, .istore 5, 2), (18, .iload 5, 2), (20, .bipush 20, 2), (22, .if_icmp .ge 30, 3), (25, .iload_n 2, 1), (26, .iload 5, 2), (28, .ishr, 1), (29, .iconst 1, 1), (30, .iand, 1), (31, .iconst 1, 1), (32, .if_icmp .ne 14, 3), (35, .iload 4, 2), (37, .aload_n 0, 1)] = true := by decide +kernel
theorem dX10_takenFor_0 : decode cX10_takenFor 0 = .ok (.iconst 1, 1) := dk_get dk_d02_234 0 rfl
theorem dX10_takenFor_1 : decode cX10_takenFor 1 = .ok (.iload_n 1, 1) := dk_get dk_d02_234 1 rfl
theorem dX10_takenFor_2 : decode cX10_takenFor 2 = .ok (.ishl, 1) := dk_get dk_d02_234 2 rfl
theorem dX10_takenFor_3 : decode cX10_takenFor 3 = .ok (.istore_n 2, 1) := dk_get dk_d02_234 3 rfl
theorem dX10_takenFor_4 : decode cX10_takenFor 4 = .ok (.iconst 0, 1) := dk_get dk_d02_234 4 rfl
theorem dX10_takenFor_5 : decode cX10_takenFor 5 = .ok (.istore_n 3, 1) := dk_get dk_d02_234 5 rfl
theorem dX10_takenFor_6 : decode cX10_takenFor 6 = .ok (.iload_n 3, 1) := dk_get dk_d02_234 6 rfl
theorem dX10_takenFor_7 : decode cX10_takenFor 7 = .ok (.bipush 20, 2) := dk_get dk_d02_234 7 rfl
theorem dX10_takenFor_9 : decode cX10_takenFor 9 = .ok (.if_icmp .ge 60, 3) := dk_get dk_d02_234 8 rfl
theorem dX10_takenFor_12 : decode cX10_takenFor 12 = .ok (.iload_n 2, 1) := dk_get dk_d02_234 9 rfl
theorem dX10_takenFor_13 : decode cX10_takenFor 13 = .ok (.istore 4, 2) := dk_get dk_d02_234 10 rfl
theorem dX10_takenFor_15 : decode cX10_takenFor 15 = .ok (.iconst 0, 1) := dk_get dk_d02_234 11 rfl
theorem dX10_takenFor_16 : decode cX10_takenFor 16 = .ok (.istore 5, 2) := dk_get dk_d02_234 12 rfl
theorem dX10_takenFor_18 : decode cX10_takenFor 18 = .ok (.iload 5, 2) := dk_get dk_d02_234 13 rfl
theorem dX10_takenFor_20 : decode cX10_takenFor 20 = .ok (.bipush 20, 2) := dk_get dk_d02_234 14 rfl
theorem dX10_takenFor_22 : decode cX10_takenFor 22 = .ok (.if_icmp .ge 30, 3) := dk_get dk_d02_234 15 rfl
theorem dX10_takenFor_25 : decode cX10_takenFor 25 = .ok (.iload_n 2, 1) := dk_get dk_d02_234 16 rfl
theorem dX10_takenFor_26 : decode cX10_takenFor 26 = .ok (.iload 5, 2) := dk_get dk_d02_234 17 rfl
theorem dX10_takenFor_28 : decode cX10_takenFor 28 = .ok (.ishr, 1) := dk_get dk_d02_234 18 rfl
theorem dX10_takenFor_29 : decode cX10_takenFor 29 = .ok (.iconst 1, 1) := dk_get dk_d02_234 19 rfl
theorem dX10_takenFor_30 : decode cX10_takenFor 30 = .ok (.iand, 1) := dk_get dk_d02_234 20 rfl
theorem dX10_takenFor_31 : decode cX10_takenFor 31 = .ok (.iconst 1, 1) := dk_get dk_d02_234 21 rfl
theorem dX10_takenFor_32 : decode cX10_takenFor 32 = .ok (.if_icmp .ne 14, 3) := dk_get dk_d02_234 22 rfl
theorem dX10_takenFor_35 : decode cX10_takenFor 35 = .ok (.iload 4, 2) := dk_get dk_d02_234 23 rfl
theorem dX10_takenFor_37 : decode cX10_takenFor 37 = .ok (.aload_n 0, 1) := dk_get dk_d02_234 24 rfl
theorem dk_d02_235 : dkc cX10_takenFor [(38, .iload 5, 2), (40, .invokevirtual 74, 3), (43, .ior, 1), (44, .istore 4, 2), (46, .iinc 5 1, 3), (49, .goto (-31), 3), (52, .iload 4, 2), (54, .iload_n 2, 1), (55, .if_icmp .ne 5, 3), (58, .iload_n 2, 1), (59, .ireturn, 1), (60, .iload 4, 2), (62, .istore_n 2, 1), (63, .iinc 3 1, 3), (66, .goto (-60), 3), (69, .iload_n 2, 1), (70, .ireturn, 1)] = true := by decide +kernel
theorem dX10_takenFor_38 : decode cX10_takenFor 38 = .ok (.iload 5, 2) := dk_get dk_d02_235 0 rfl
theorem dX10_takenFor_40 : decode cX10_takenFor 40 = .ok (.invokevirtual 74, 3) := dk_get dk_d02_235 1 rfl
theorem dX10_takenFor_43 : decode cX10_takenFor 43 = .ok (.ior, 1) := dk_get dk_d02_235 2 rfl
theorem dX10_takenFor_44 : decode cX10_takenFor 44 = .ok (.istore 4, 2) := dk_get dk_d02_235 3 rfl
theorem dX10_takenFor_46 : decode cX10_takenFor 46 = .ok (.iinc 5 1, 3) := dk_get dk_d02_235 4 rfl
theorem dX10_takenFor_49 : decode cX10_takenFor 49 = .ok (.goto (-31), 3) := dk_get dk_d02_235 5 rfl
theorem dX10_takenFor_52 : decode cX10_takenFor 52 = .ok (.iload 4, 2) := dk_get dk_d02_235 6 rfl
theorem dX10_takenFor_54 : decode cX10_takenFor 54 = .ok (.iload_n 2, 1) := dk_get dk_d02_235 7 rfl
theorem dX10_takenFor_55 : decode cX10_takenFor 55 = .ok (.if_icmp .ne 5, 3) := dk_get dk_d02_235 8 rfl
theorem dX10_takenFor_58 : decode cX10_takenFor 58 = .ok (.iload_n 2, 1) := dk_get dk_d02_235 9 rfl
theorem dX10_takenFor_59 : decode cX10_takenFor 59 = .ok (.ireturn, 1) := dk_get dk_d02_235 10 rfl
theorem dX10_takenFor_60 : decode cX10_takenFor 60 = .ok (.iload 4, 2) := dk_get dk_d02_235 11 rfl
theorem dX10_takenFor_62 : decode cX10_takenFor 62 = .ok (.istore_n 2, 1) := dk_get dk_d02_235 12 rfl
theorem dX10_takenFor_63 : decode cX10_takenFor 63 = .ok (.iinc 3 1, 3) := dk_get dk_d02_235 13 rfl
theorem dX10_takenFor_66 : decode cX10_takenFor 66 = .ok (.goto (-60), 3) := dk_get dk_d02_235 14 rfl
theorem dX10_takenFor_69 : decode cX10_takenFor 69 = .ok (.iload_n 2, 1) := dk_get dk_d02_235 15 rfl
theorem dX10_takenFor_70 : decode cX10_takenFor 70 = .ok (.ireturn, 1) := dk_get dk_d02_235 16 rfl
theorem dk_d02_236 : dkc cX11_init [(0, .aload_n 0, 1), (1, .invokespecial 3, 3), (4, .aload_n 0, 1), (5, .new 9, 3), (8, .dup, 1), (9, .invokespecial 11, 3), (12, .putfield 12, 3), (15, .aload_n 0, 1), (16, .new 9, 3), (19, .dup, 1), (20, .invokespecial 11, 3), (23, .putfield 16, 3), (26, .aload_n 0, 1), (27, .iconst 0, 1), (28, .putfield 19, 3), (31, .aload_n 0, 1), (32, .new 23, 3), (35, .dup, 1), (36, .invokespecial 25, 3), (39, .putfield 26, 3), (42, .aload_n 0, 1), (43, .new 30, 3), (46, .dup, 1), (47, .invokespecial 32, 3), (50, .putfield 33, 3)] = true := by decide +kernel
theorem dX11_init_0 : decode cX11_init 0 = .ok (.aload_n 0, 1) := dk_get dk_d02_236 0 rfl
theorem dX11_init_1 : decode cX11_init 1 = .ok (.invokespecial 3, 3) := dk_get dk_d02_236 1 rfl
theorem dX11_init_4 : decode cX11_init 4 = .ok (.aload_n 0, 1) := dk_get dk_d02_236 2 rfl
theorem dX11_init_5 : decode cX11_init 5 = .ok (.new 9, 3) := dk_get dk_d02_236 3 rfl
theorem dX11_init_8 : decode cX11_init 8 = .ok (.dup, 1) := dk_get dk_d02_236 4 rfl
theorem dX11_init_9 : decode cX11_init 9 = .ok (.invokespecial 11, 3) := dk_get dk_d02_236 5 rfl
theorem dX11_init_12 : decode cX11_init 12 = .ok (.putfield 12, 3) := dk_get dk_d02_236 6 rfl
theorem dX11_init_15 : decode cX11_init 15 = .ok (.aload_n 0, 1) := dk_get dk_d02_236 7 rfl
theorem dX11_init_16 : decode cX11_init 16 = .ok (.new 9, 3) := dk_get dk_d02_236 8 rfl
theorem dX11_init_19 : decode cX11_init 19 = .ok (.dup, 1) := dk_get dk_d02_236 9 rfl
theorem dX11_init_20 : decode cX11_init 20 = .ok (.invokespecial 11, 3) := dk_get dk_d02_236 10 rfl
theorem dX11_init_23 : decode cX11_init 23 = .ok (.putfield 16, 3) := dk_get dk_d02_236 11 rfl
theorem dX11_init_26 : decode cX11_init 26 = .ok (.aload_n 0, 1) := dk_get dk_d02_236 12 rfl
theorem dX11_init_27 : decode cX11_init 27 = .ok (.iconst 0, 1) := dk_get dk_d02_236 13 rfl
theorem dX11_init_28 : decode cX11_init 28 = .ok (.putfield 19, 3) := dk_get dk_d02_236 14 rfl
theorem dX11_init_31 : decode cX11_init 31 = .ok (.aload_n 0, 1) := dk_get dk_d02_236 15 rfl
theorem dX11_init_32 : decode cX11_init 32 = .ok (.new 23, 3) := dk_get dk_d02_236 16 rfl
theorem dX11_init_35 : decode cX11_init 35 = .ok (.dup, 1) := dk_get dk_d02_236 17 rfl
theorem dX11_init_36 : decode cX11_init 36 = .ok (.invokespecial 25, 3) := dk_get dk_d02_236 18 rfl
theorem dX11_init_39 : decode cX11_init 39 = .ok (.putfield 26, 3) := dk_get dk_d02_236 19 rfl
theorem dX11_init_42 : decode cX11_init 42 = .ok (.aload_n 0, 1) := dk_get dk_d02_236 20 rfl
theorem dX11_init_43 : decode cX11_init 43 = .ok (.new 30, 3) := dk_get dk_d02_236 21 rfl
theorem dX11_init_46 : decode cX11_init 46 = .ok (.dup, 1) := dk_get dk_d02_236 22 rfl
theorem dX11_init_47 : decode cX11_init 47 = .ok (.invokespecial 32, 3) := dk_get dk_d02_236 23 rfl
theorem dX11_init_50 : decode cX11_init 50 = .ok (.putfield 33, 3) := dk_get dk_d02_236 24 rfl
theorem dk_d02_237 : dkc cX11_init [(53, .aload_n 0, 1), (54, .new 37, 3), (57, .dup, 1), (58, .invokespecial 39, 3), (61, .putfield 40, 3), (64, .aload_n 0, 1), (65, .new 44, 3), (68, .dup, 1), (69, .invokespecial 46, 3), (72, .putfield 47, 3), (75, .aload_n 0, 1), (76, .new 51, 3), (79, .dup, 1), (80, .invokespecial 53, 3), (83, .putfield 54, 3), (86, .aload_n 0, 1), (87, .new 58, 3), (90, .dup, 1), (91, .invokespecial 60, 3), (94, .putfield 61, 3), (97, .aload_n 0, 1), (98, .new 65, 3), (101, .dup, 1), (102, .aload_n 0, 1), (103, .getfield 12, 3)] = true := by decide +kernel
theorem dX11_init_53 : decode cX11_init 53 = .ok (.aload_n 0, 1) := dk_get dk_d02_237 0 rfl
theorem dX11_init_54 : decode cX11_init 54 = .ok (.new 37, 3) := dk_get dk_d02_237 1 rfl
theorem dX11_init_57 : decode cX11_init 57 = .ok (.dup, 1) := dk_get dk_d02_237 2 rfl
theorem dX11_init_58 : decode cX11_init 58 = .ok (.invokespecial 39, 3) := dk_get dk_d02_237 3 rfl
theorem dX11_init_61 : decode cX11_init 61 = .ok (.putfield 40, 3) := dk_get dk_d02_237 4 rfl
theorem dX11_init_64 : decode cX11_init 64 = .ok (.aload_n 0, 1) := dk_get dk_d02_237 5 rfl
theorem dX11_init_65 : decode cX11_init 65 = .ok (.new 44, 3) := dk_get dk_d02_237 6 rfl
theorem dX11_init_68 : decode cX11_init 68 = .ok (.dup, 1) := dk_get dk_d02_237 7 rfl
theorem dX11_init_69 : decode cX11_init 69 = .ok (.invokespecial 46, 3) := dk_get dk_d02_237 8 rfl
theorem dX11_init_72 : decode cX11_init 72 = .ok (.putfield 47, 3) := dk_get dk_d02_237 9 rfl
theorem dX11_init_75 : decode cX11_init 75 = .ok (.aload_n 0, 1) := dk_get dk_d02_237 10 rfl
theorem dX11_init_76 : decode cX11_init 76 = .ok (.new 51, 3) := dk_get dk_d02_237 11 rfl
theorem dX11_init_79 : decode cX11_init 79 = .ok (.dup, 1) := dk_get dk_d02_237 12 rfl
theorem dX11_init_80 : decode cX11_init 80 = .ok (.invokespecial 53, 3) := dk_get dk_d02_237 13 rfl
theorem dX11_init_83 : decode cX11_init 83 = .ok (.putfield 54, 3) := dk_get dk_d02_237 14 rfl
theorem dX11_init_86 : decode cX11_init 86 = .ok (.aload_n 0, 1) := dk_get dk_d02_237 15 rfl
theorem dX11_init_87 : decode cX11_init 87 = .ok (.new 58, 3) := dk_get dk_d02_237 16 rfl
theorem dX11_init_90 : decode cX11_init 90 = .ok (.dup, 1) := dk_get dk_d02_237 17 rfl
theorem dX11_init_91 : decode cX11_init 91 = .ok (.invokespecial 60, 3) := dk_get dk_d02_237 18 rfl
theorem dX11_init_94 : decode cX11_init 94 = .ok (.putfield 61, 3) := dk_get dk_d02_237 19 rfl
theorem dX11_init_97 : decode cX11_init 97 = .ok (.aload_n 0, 1) := dk_get dk_d02_237 20 rfl
theorem dX11_init_98 : decode cX11_init 98 = .ok (.new 65, 3) := dk_get dk_d02_237 21 rfl
theorem dX11_init_101 : decode cX11_init 101 = .ok (.dup, 1) := dk_get dk_d02_237 22 rfl
theorem dX11_init_102 : decode cX11_init 102 = .ok (.aload_n 0, 1) := dk_get dk_d02_237 23 rfl
theorem dX11_init_103 : decode cX11_init 103 = .ok (.getfield 12, 3) := dk_get dk_d02_237 24 rfl
theorem dk_d02_238 : dkc cX11_init [(106, .getfield 67, 3), (109, .aload_n 0, 1), (110, .getfield 12, 3), (113, .getfield 70, 3), (116, .aload_n 0, 1), (117, .getfield 12, 3), (120, .getfield 74, 3), (123, .invokespecial 78, 3), (126, .putfield 81, 3), (129, .aload_n 0, 1), (130, .new 65, 3), (133, .dup, 1), (134, .aload_n 0, 1), (135, .getfield 40, 3), (138, .aload_n 0, 1), (139, .getfield 12, 3), (142, .getfield 70, 3), (145, .aconst_null, 1), (146, .invokespecial 78, 3), (149, .putfield 85, 3), (152, .return_, 1)] = true := by decide +kernel
theorem dX11_init_106 : decode cX11_init 106 = .ok (.getfield 67, 3) := dk_get dk_d02_238 0 rfl
theorem dX11_init_109 : decode cX11_init 109 = .ok (.aload_n 0, 1) := dk_get dk_d02_238 1 rfl
theorem dX11_init_110 : decode cX11_init 110 = .ok (.getfield 12, 3) := dk_get dk_d02_238 2 rfl
theorem dX11_init_113 : decode cX11_init 113 = .ok (.getfield 70, 3) := dk_get dk_d02_238 3 rfl
theorem dX11_init_116 : decode cX11_init 116 = .ok (.aload_n 0, 1) := dk_get dk_d02_238 4 rfl
theorem dX11_init_117 : decode cX11_init 117 = .ok (.getfield 12, 3) := dk_get dk_d02_238 5 rfl
theorem dX11_init_120 : decode cX11_init 120 = .ok (.getfield 74, 3) := dk_get dk_d02_238 6 rfl
theorem dX11_init_123 : decode cX11_init 123 = .ok (.invokespecial 78, 3) := dk_get dk_d02_238 7 rfl
theorem dX11_init_126 : decode cX11_init 126 = .ok (.putfield 81, 3) := dk_get dk_d02_238 8 rfl
theorem dX11_init_129 : decode cX11_init 129 = .ok (.aload_n 0, 1) := dk_get dk_d02_238 9 rfl
theorem dX11_init_130 : decode cX11_init 130 = .ok (.new 65, 3) := dk_get dk_d02_238 10 rfl
theorem dX11_init_133 : decode cX11_init 133 = .ok (.dup, 1) := dk_get dk_d02_238 11 rfl
theorem dX11_init_134 : decode cX11_init 134 = .ok (.aload_n 0, 1) := dk_get dk_d02_238 12 rfl
theorem dX11_init_135 : decode cX11_init 135 = .ok (.getfield 40, 3) := dk_get dk_d02_238 13 rfl
theorem dX11_init_138 : decode cX11_init 138 = .ok (.aload_n 0, 1) := dk_get dk_d02_238 14 rfl
theorem dX11_init_139 : decode cX11_init 139 = .ok (.getfield 12, 3) := dk_get dk_d02_238 15 rfl
theorem dX11_init_142 : decode cX11_init 142 = .ok (.getfield 70, 3) := dk_get dk_d02_238 16 rfl
theorem dX11_init_145 : decode cX11_init 145 = .ok (.aconst_null, 1) := dk_get dk_d02_238 17 rfl
theorem dX11_init_146 : decode cX11_init 146 = .ok (.invokespecial 78, 3) := dk_get dk_d02_238 18 rfl
theorem dX11_init_149 : decode cX11_init 149 = .ok (.putfield 85, 3) := dk_get dk_d02_238 19 rfl
theorem dX11_init_152 : decode cX11_init 152 = .ok (.return_, 1) := dk_get dk_d02_238 20 rfl
theorem dk_d02_239 : dkc cX11_state [(0, .aload_n 0, 1), (1, .getfield 12, 3), (4, .getfield 67, 3), (7, .getfield 88, 3), (10, .istore_n 2, 1), (11, .aload_n 0, 1), (12, .getfield 12, 3), (15, .getfield 67, 3), (18, .iload_n 1, 1), (19, .putfield 88, 3), (22, .aload_n 0, 1), (23, .getfield 26, 3), (26, .invokevirtual 92, 3), (29, .iload_n 2, 1), (30, .ireturn, 1)] = true := by decide +kernel
theorem dX11_state_0 : decode cX11_state 0 = .ok (.aload_n 0, 1) := dk_get dk_d02_239 0 rfl
theorem dX11_state_1 : decode cX11_state 1 = .ok (.getfield 12, 3) := dk_get dk_d02_239 1 rfl
theorem dX11_state_4 : decode cX11_state 4 = .ok (.getfield 67, 3) := dk_get dk_d02_239 2 rfl
theorem dX11_state_7 : decode cX11_state 7 = .ok (.getfield 88, 3) := dk_get dk_d02_239 3 rfl
theorem dX11_state_10 : decode cX11_state 10 = .ok (.istore_n 2, 1) := dk_get dk_d02_239 4 rfl
theorem dX11_state_11 : decode cX11_state 11 = .ok (.aload_n 0, 1) := dk_get dk_d02_239 5 rfl
theorem dX11_state_12 : decode cX11_state 12 = .ok (.getfield 12, 3) := dk_get dk_d02_239 6 rfl
theorem dX11_state_15 : decode cX11_state 15 = .ok (.getfield 67, 3) := dk_get dk_d02_239 7 rfl
theorem dX11_state_18 : decode cX11_state 18 = .ok (.iload_n 1, 1) := dk_get dk_d02_239 8 rfl
theorem dX11_state_19 : decode cX11_state 19 = .ok (.putfield 88, 3) := dk_get dk_d02_239 9 rfl
theorem dX11_state_22 : decode cX11_state 22 = .ok (.aload_n 0, 1) := dk_get dk_d02_239 10 rfl
theorem dX11_state_23 : decode cX11_state 23 = .ok (.getfield 26, 3) := dk_get dk_d02_239 11 rfl
theorem dX11_state_26 : decode cX11_state 26 = .ok (.invokevirtual 92, 3) := dk_get dk_d02_239 12 rfl
theorem dX11_state_29 : decode cX11_state 29 = .ok (.iload_n 2, 1) := dk_get dk_d02_239 13 rfl
theorem dX11_state_30 : decode cX11_state 30 = .ok (.ireturn, 1) := dk_get dk_d02_239 14 rfl
theorem dk_d02_240 : dkc cX11_voter [(0, .iconst 0, 1), (1, .iload_n 1, 1), (2, .invokestatic 95, 3), (5, .ifCond .eq 32, 3), (8, .iconst 1, 1), (9, .iload_n 2, 1), (10, .invokestatic 95, 3), (13, .ifCond .eq 24, 3), (16, .iconst 2, 1), (17, .iload_n 3, 1), (18, .invokestatic 95, 3), (21, .ifCond .eq 16, 3), (24, .iconst 3, 1), (25, .iload 4, 2), (27, .invokestatic 95, 3), (30, .ifCond .eq 7, 3), (33, .iconst 1, 1), (34, .goto 4, 3), (37, .iconst 0, 1), (38, .istore 5, 2), (40, .iload 5, 2), (42, .ifCond .eq 18, 3), (45, .aload_n 0, 1), (46, .getfield 12, 3), (49, .getfield 67, 3)] = true := by decide +kernel
theorem dX11_voter_0 : decode cX11_voter 0 = .ok (.iconst 0, 1) := dk_get dk_d02_240 0 rfl
theorem dX11_voter_1 : decode cX11_voter 1 = .ok (.iload_n 1, 1) := dk_get dk_d02_240 1 rfl
theorem dX11_voter_2 : decode cX11_voter 2 = .ok (.invokestatic 95, 3) := dk_get dk_d02_240 2 rfl
theorem dX11_voter_5 : decode cX11_voter 5 = .ok (.ifCond .eq 32, 3) := dk_get dk_d02_240 3 rfl
theorem dX11_voter_8 : decode cX11_voter 8 = .ok (.iconst 1, 1) := dk_get dk_d02_240 4 rfl
theorem dX11_voter_9 : decode cX11_voter 9 = .ok (.iload_n 2, 1) := dk_get dk_d02_240 5 rfl
theorem dX11_voter_10 : decode cX11_voter 10 = .ok (.invokestatic 95, 3) := dk_get dk_d02_240 6 rfl
theorem dX11_voter_13 : decode cX11_voter 13 = .ok (.ifCond .eq 24, 3) := dk_get dk_d02_240 7 rfl
theorem dX11_voter_16 : decode cX11_voter 16 = .ok (.iconst 2, 1) := dk_get dk_d02_240 8 rfl
theorem dX11_voter_17 : decode cX11_voter 17 = .ok (.iload_n 3, 1) := dk_get dk_d02_240 9 rfl
theorem dX11_voter_18 : decode cX11_voter 18 = .ok (.invokestatic 95, 3) := dk_get dk_d02_240 10 rfl
theorem dX11_voter_21 : decode cX11_voter 21 = .ok (.ifCond .eq 16, 3) := dk_get dk_d02_240 11 rfl
theorem dX11_voter_24 : decode cX11_voter 24 = .ok (.iconst 3, 1) := dk_get dk_d02_240 12 rfl
theorem dX11_voter_25 : decode cX11_voter 25 = .ok (.iload 4, 2) := dk_get dk_d02_240 13 rfl
theorem dX11_voter_27 : decode cX11_voter 27 = .ok (.invokestatic 95, 3) := dk_get dk_d02_240 14 rfl
theorem dX11_voter_30 : decode cX11_voter 30 = .ok (.ifCond .eq 7, 3) := dk_get dk_d02_240 15 rfl
theorem dX11_voter_33 : decode cX11_voter 33 = .ok (.iconst 1, 1) := dk_get dk_d02_240 16 rfl
theorem dX11_voter_34 : decode cX11_voter 34 = .ok (.goto 4, 3) := dk_get dk_d02_240 17 rfl
theorem dX11_voter_37 : decode cX11_voter 37 = .ok (.iconst 0, 1) := dk_get dk_d02_240 18 rfl
theorem dX11_voter_38 : decode cX11_voter 38 = .ok (.istore 5, 2) := dk_get dk_d02_240 19 rfl
theorem dX11_voter_40 : decode cX11_voter 40 = .ok (.iload 5, 2) := dk_get dk_d02_240 20 rfl
theorem dX11_voter_42 : decode cX11_voter 42 = .ok (.ifCond .eq 18, 3) := dk_get dk_d02_240 21 rfl
theorem dX11_voter_45 : decode cX11_voter 45 = .ok (.aload_n 0, 1) := dk_get dk_d02_240 22 rfl
theorem dX11_voter_46 : decode cX11_voter 46 = .ok (.getfield 12, 3) := dk_get dk_d02_240 23 rfl
theorem dX11_voter_49 : decode cX11_voter 49 = .ok (.getfield 67, 3) := dk_get dk_d02_240 24 rfl
theorem dk_d02_241 : dkc cX11_voter [(52, .getfield 99, 3), (55, .bipush 20, 2), (57, .if_icmp .lt 5, 3), (60, .iconst (-1), 1), (61, .ireturn, 1), (62, .aload_n 0, 1), (63, .getfield 12, 3), (66, .getfield 67, 3), (69, .getfield 99, 3), (72, .istore 6, 2), (74, .aload_n 0, 1), (75, .getfield 12, 3), (78, .getfield 67, 3), (81, .iload 6, 2), (83, .iconst 1, 1), (84, .iadd, 1), (85, .putfield 99, 3), (88, .aload_n 0, 1), (89, .getfield 12, 3), (92, .getfield 67, 3), (95, .iload 6, 2), (97, .iconst 0, 1), (98, .iload_n 1, 1), (99, .invokevirtual 102, 3), (102, .aload_n 0, 1)] = true := by decide +kernel
theorem dX11_voter_52 : decode cX11_voter 52 = .ok (.getfield 99, 3) := dk_get dk_d02_241 0 rfl
theorem dX11_voter_55 : decode cX11_voter 55 = .ok (.bipush 20, 2) := dk_get dk_d02_241 1 rfl
theorem dX11_voter_57 : decode cX11_voter 57 = .ok (.if_icmp .lt 5, 3) := dk_get dk_d02_241 2 rfl
theorem dX11_voter_60 : decode cX11_voter 60 = .ok (.iconst (-1), 1) := dk_get dk_d02_241 3 rfl
theorem dX11_voter_61 : decode cX11_voter 61 = .ok (.ireturn, 1) := dk_get dk_d02_241 4 rfl
theorem dX11_voter_62 : decode cX11_voter 62 = .ok (.aload_n 0, 1) := dk_get dk_d02_241 5 rfl
theorem dX11_voter_63 : decode cX11_voter 63 = .ok (.getfield 12, 3) := dk_get dk_d02_241 6 rfl
theorem dX11_voter_66 : decode cX11_voter 66 = .ok (.getfield 67, 3) := dk_get dk_d02_241 7 rfl
theorem dX11_voter_69 : decode cX11_voter 69 = .ok (.getfield 99, 3) := dk_get dk_d02_241 8 rfl
theorem dX11_voter_72 : decode cX11_voter 72 = .ok (.istore 6, 2) := dk_get dk_d02_241 9 rfl
theorem dX11_voter_74 : decode cX11_voter 74 = .ok (.aload_n 0, 1) := dk_get dk_d02_241 10 rfl
theorem dX11_voter_75 : decode cX11_voter 75 = .ok (.getfield 12, 3) := dk_get dk_d02_241 11 rfl
theorem dX11_voter_78 : decode cX11_voter 78 = .ok (.getfield 67, 3) := dk_get dk_d02_241 12 rfl
theorem dX11_voter_81 : decode cX11_voter 81 = .ok (.iload 6, 2) := dk_get dk_d02_241 13 rfl
theorem dX11_voter_83 : decode cX11_voter 83 = .ok (.iconst 1, 1) := dk_get dk_d02_241 14 rfl
theorem dX11_voter_84 : decode cX11_voter 84 = .ok (.iadd, 1) := dk_get dk_d02_241 15 rfl
theorem dX11_voter_85 : decode cX11_voter 85 = .ok (.putfield 99, 3) := dk_get dk_d02_241 16 rfl
theorem dX11_voter_88 : decode cX11_voter 88 = .ok (.aload_n 0, 1) := dk_get dk_d02_241 17 rfl
theorem dX11_voter_89 : decode cX11_voter 89 = .ok (.getfield 12, 3) := dk_get dk_d02_241 18 rfl
theorem dX11_voter_92 : decode cX11_voter 92 = .ok (.getfield 67, 3) := dk_get dk_d02_241 19 rfl
theorem dX11_voter_95 : decode cX11_voter 95 = .ok (.iload 6, 2) := dk_get dk_d02_241 20 rfl
theorem dX11_voter_97 : decode cX11_voter 97 = .ok (.iconst 0, 1) := dk_get dk_d02_241 21 rfl
theorem dX11_voter_98 : decode cX11_voter 98 = .ok (.iload_n 1, 1) := dk_get dk_d02_241 22 rfl
theorem dX11_voter_99 : decode cX11_voter 99 = .ok (.invokevirtual 102, 3) := dk_get dk_d02_241 23 rfl
theorem dX11_voter_102 : decode cX11_voter 102 = .ok (.aload_n 0, 1) := dk_get dk_d02_241 24 rfl
theorem dk_d02_242 : dkc cX11_voter [(103, .getfield 12, 3), (106, .getfield 67, 3), (109, .iload 6, 2), (111, .iconst 1, 1), (112, .iload_n 2, 1), (113, .invokevirtual 102, 3), (116, .aload_n 0, 1), (117, .getfield 12, 3), (120, .getfield 67, 3), (123, .iload 6, 2), (125, .iconst 2, 1), (126, .iload_n 3, 1), (127, .invokevirtual 102, 3), (130, .aload_n 0, 1), (131, .getfield 12, 3), (134, .getfield 67, 3), (137, .iload 6, 2), (139, .iconst 3, 1), (140, .iload 4, 2), (142, .invokevirtual 102, 3), (145, .aload_n 0, 1), (146, .getfield 12, 3), (149, .getfield 67, 3), (152, .iload 6, 2), (154, .iconst 4, 1)] = true := by decide +kernel
theorem dX11_voter_103 : decode cX11_voter 103 = .ok (.getfield 12, 3) := dk_get dk_d02_242 0 rfl
theorem dX11_voter_106 : decode cX11_voter 106 = .ok (.getfield 67, 3) := dk_get dk_d02_242 1 rfl
theorem dX11_voter_109 : decode cX11_voter 109 = .ok (.iload 6, 2) := dk_get dk_d02_242 2 rfl
theorem dX11_voter_111 : decode cX11_voter 111 = .ok (.iconst 1, 1) := dk_get dk_d02_242 3 rfl
theorem dX11_voter_112 : decode cX11_voter 112 = .ok (.iload_n 2, 1) := dk_get dk_d02_242 4 rfl
theorem dX11_voter_113 : decode cX11_voter 113 = .ok (.invokevirtual 102, 3) := dk_get dk_d02_242 5 rfl
theorem dX11_voter_116 : decode cX11_voter 116 = .ok (.aload_n 0, 1) := dk_get dk_d02_242 6 rfl
theorem dX11_voter_117 : decode cX11_voter 117 = .ok (.getfield 12, 3) := dk_get dk_d02_242 7 rfl
theorem dX11_voter_120 : decode cX11_voter 120 = .ok (.getfield 67, 3) := dk_get dk_d02_242 8 rfl
theorem dX11_voter_123 : decode cX11_voter 123 = .ok (.iload 6, 2) := dk_get dk_d02_242 9 rfl
theorem dX11_voter_125 : decode cX11_voter 125 = .ok (.iconst 2, 1) := dk_get dk_d02_242 10 rfl
theorem dX11_voter_126 : decode cX11_voter 126 = .ok (.iload_n 3, 1) := dk_get dk_d02_242 11 rfl
theorem dX11_voter_127 : decode cX11_voter 127 = .ok (.invokevirtual 102, 3) := dk_get dk_d02_242 12 rfl
theorem dX11_voter_130 : decode cX11_voter 130 = .ok (.aload_n 0, 1) := dk_get dk_d02_242 13 rfl
theorem dX11_voter_131 : decode cX11_voter 131 = .ok (.getfield 12, 3) := dk_get dk_d02_242 14 rfl
theorem dX11_voter_134 : decode cX11_voter 134 = .ok (.getfield 67, 3) := dk_get dk_d02_242 15 rfl
theorem dX11_voter_137 : decode cX11_voter 137 = .ok (.iload 6, 2) := dk_get dk_d02_242 16 rfl
theorem dX11_voter_139 : decode cX11_voter 139 = .ok (.iconst 3, 1) := dk_get dk_d02_242 17 rfl
theorem dX11_voter_140 : decode cX11_voter 140 = .ok (.iload 4, 2) := dk_get dk_d02_242 18 rfl
theorem dX11_voter_142 : decode cX11_voter 142 = .ok (.invokevirtual 102, 3) := dk_get dk_d02_242 19 rfl
theorem dX11_voter_145 : decode cX11_voter 145 = .ok (.aload_n 0, 1) := dk_get dk_d02_242 20 rfl
theorem dX11_voter_146 : decode cX11_voter 146 = .ok (.getfield 12, 3) := dk_get dk_d02_242 21 rfl
theorem dX11_voter_149 : decode cX11_voter 149 = .ok (.getfield 67, 3) := dk_get dk_d02_242 22 rfl
theorem dX11_voter_152 : decode cX11_voter 152 = .ok (.iload 6, 2) := dk_get dk_d02_242 23 rfl
theorem dX11_voter_154 : decode cX11_voter 154 = .ok (.iconst 4, 1) := dk_get dk_d02_242 24 rfl
theorem dk_d02_243 : dkc cX11_voter [(155, .iconst 0, 1), (156, .invokevirtual 102, 3), (159, .aload_n 0, 1), (160, .getfield 12, 3), (163, .getfield 67, 3), (166, .iload 6, 2), (168, .iconst 5, 1), (169, .iconst 0, 1), (170, .invokevirtual 102, 3), (173, .aload_n 0, 1), (174, .getfield 26, 3), (177, .invokevirtual 92, 3), (180, .iload 6, 2), (182, .ireturn, 1)] = true := by decide +kernel
theorem dX11_voter_155 : decode cX11_voter 155 = .ok (.iconst 0, 1) := dk_get dk_d02_243 0 rfl
theorem dX11_voter_156 : decode cX11_voter 156 = .ok (.invokevirtual 102, 3) := dk_get dk_d02_243 1 rfl
theorem dX11_voter_159 : decode cX11_voter 159 = .ok (.aload_n 0, 1) := dk_get dk_d02_243 2 rfl
theorem dX11_voter_160 : decode cX11_voter 160 = .ok (.getfield 12, 3) := dk_get dk_d02_243 3 rfl
theorem dX11_voter_163 : decode cX11_voter 163 = .ok (.getfield 67, 3) := dk_get dk_d02_243 4 rfl
theorem dX11_voter_166 : decode cX11_voter 166 = .ok (.iload 6, 2) := dk_get dk_d02_243 5 rfl
theorem dX11_voter_168 : decode cX11_voter 168 = .ok (.iconst 5, 1) := dk_get dk_d02_243 6 rfl
theorem dX11_voter_169 : decode cX11_voter 169 = .ok (.iconst 0, 1) := dk_get dk_d02_243 7 rfl
theorem dX11_voter_170 : decode cX11_voter 170 = .ok (.invokevirtual 102, 3) := dk_get dk_d02_243 8 rfl
theorem dX11_voter_173 : decode cX11_voter 173 = .ok (.aload_n 0, 1) := dk_get dk_d02_243 9 rfl
theorem dX11_voter_174 : decode cX11_voter 174 = .ok (.getfield 26, 3) := dk_get dk_d02_243 10 rfl
theorem dX11_voter_177 : decode cX11_voter 177 = .ok (.invokevirtual 92, 3) := dk_get dk_d02_243 11 rfl
theorem dX11_voter_180 : decode cX11_voter 180 = .ok (.iload 6, 2) := dk_get dk_d02_243 12 rfl
theorem dX11_voter_182 : decode cX11_voter 182 = .ok (.ireturn, 1) := dk_get dk_d02_243 13 rfl
theorem dk_d02_244 : dkc cX11_set [(0, .iload_n 1, 1), (1, .iconst 4, 1), (2, .if_icmp .ne 29, 3), (5, .iload_n 3, 1), (6, .ifCond .lt 9, 3), (9, .iload_n 3, 1), (10, .bipush 9, 2), (12, .if_icmp .le 5, 3), (15, .iconst 0, 1), (16, .ireturn, 1), (17, .aload_n 0, 1), (18, .getfield 12, 3), (21, .getfield 67, 3), (24, .iload_n 3, 1), (25, .putfield 106, 3), (28, .goto 40, 3), (31, .aload_n 0, 1), (32, .getfield 12, 3), (35, .getfield 67, 3), (38, .iload_n 2, 1), (39, .invokevirtual 109, 3), (42, .ifCond .eq 11, 3), (45, .iload_n 1, 1), (46, .iload_n 3, 1), (47, .invokestatic 95, 3)] = true := by decide +kernel
theorem dX11_set_0 : decode cX11_set 0 = .ok (.iload_n 1, 1) := dk_get dk_d02_244 0 rfl
theorem dX11_set_1 : decode cX11_set 1 = .ok (.iconst 4, 1) := dk_get dk_d02_244 1 rfl
theorem dX11_set_2 : decode cX11_set 2 = .ok (.if_icmp .ne 29, 3) := dk_get dk_d02_244 2 rfl
theorem dX11_set_5 : decode cX11_set 5 = .ok (.iload_n 3, 1) := dk_get dk_d02_244 3 rfl
theorem dX11_set_6 : decode cX11_set 6 = .ok (.ifCond .lt 9, 3) := dk_get dk_d02_244 4 rfl
theorem dX11_set_9 : decode cX11_set 9 = .ok (.iload_n 3, 1) := dk_get dk_d02_244 5 rfl
theorem dX11_set_10 : decode cX11_set 10 = .ok (.bipush 9, 2) := dk_get dk_d02_244 6 rfl
theorem dX11_set_12 : decode cX11_set 12 = .ok (.if_icmp .le 5, 3) := dk_get dk_d02_244 7 rfl
theorem dX11_set_15 : decode cX11_set 15 = .ok (.iconst 0, 1) := dk_get dk_d02_244 8 rfl
theorem dX11_set_16 : decode cX11_set 16 = .ok (.ireturn, 1) := dk_get dk_d02_244 9 rfl
theorem dX11_set_17 : decode cX11_set 17 = .ok (.aload_n 0, 1) := dk_get dk_d02_244 10 rfl
theorem dX11_set_18 : decode cX11_set 18 = .ok (.getfield 12, 3) := dk_get dk_d02_244 11 rfl
theorem dX11_set_21 : decode cX11_set 21 = .ok (.getfield 67, 3) := dk_get dk_d02_244 12 rfl
theorem dX11_set_24 : decode cX11_set 24 = .ok (.iload_n 3, 1) := dk_get dk_d02_244 13 rfl
theorem dX11_set_25 : decode cX11_set 25 = .ok (.putfield 106, 3) := dk_get dk_d02_244 14 rfl
theorem dX11_set_28 : decode cX11_set 28 = .ok (.goto 40, 3) := dk_get dk_d02_244 15 rfl
theorem dX11_set_31 : decode cX11_set 31 = .ok (.aload_n 0, 1) := dk_get dk_d02_244 16 rfl
theorem dX11_set_32 : decode cX11_set 32 = .ok (.getfield 12, 3) := dk_get dk_d02_244 17 rfl
theorem dX11_set_35 : decode cX11_set 35 = .ok (.getfield 67, 3) := dk_get dk_d02_244 18 rfl
theorem dX11_set_38 : decode cX11_set 38 = .ok (.iload_n 2, 1) := dk_get dk_d02_244 19 rfl
theorem dX11_set_39 : decode cX11_set 39 = .ok (.invokevirtual 109, 3) := dk_get dk_d02_244 20 rfl
theorem dX11_set_42 : decode cX11_set 42 = .ok (.ifCond .eq 11, 3) := dk_get dk_d02_244 21 rfl
theorem dX11_set_45 : decode cX11_set 45 = .ok (.iload_n 1, 1) := dk_get dk_d02_244 22 rfl
theorem dX11_set_46 : decode cX11_set 46 = .ok (.iload_n 3, 1) := dk_get dk_d02_244 23 rfl
theorem dX11_set_47 : decode cX11_set 47 = .ok (.invokestatic 95, 3) := dk_get dk_d02_244 24 rfl
theorem dk_d02_245 : dkc cX11_set [(50, .ifCond .ne 5, 3), (53, .iconst 0, 1), (54, .ireturn, 1), (55, .aload_n 0, 1), (56, .getfield 12, 3), (59, .getfield 67, 3), (62, .iload_n 2, 1), (63, .iload_n 1, 1), (64, .iload_n 3, 1), (65, .invokevirtual 102, 3), (68, .aload_n 0, 1), (69, .getfield 26, 3), (72, .invokevirtual 92, 3), (75, .iconst 1, 1), (76, .ireturn, 1)] = true := by decide +kernel
theorem dX11_set_50 : decode cX11_set 50 = .ok (.ifCond .ne 5, 3) := dk_get dk_d02_245 0 rfl
theorem dX11_set_53 : decode cX11_set 53 = .ok (.iconst 0, 1) := dk_get dk_d02_245 1 rfl
theorem dX11_set_54 : decode cX11_set 54 = .ok (.ireturn, 1) := dk_get dk_d02_245 2 rfl
theorem dX11_set_55 : decode cX11_set 55 = .ok (.aload_n 0, 1) := dk_get dk_d02_245 3 rfl
theorem dX11_set_56 : decode cX11_set 56 = .ok (.getfield 12, 3) := dk_get dk_d02_245 4 rfl
theorem dX11_set_59 : decode cX11_set 59 = .ok (.getfield 67, 3) := dk_get dk_d02_245 5 rfl
theorem dX11_set_62 : decode cX11_set 62 = .ok (.iload_n 2, 1) := dk_get dk_d02_245 6 rfl
theorem dX11_set_63 : decode cX11_set 63 = .ok (.iload_n 1, 1) := dk_get dk_d02_245 7 rfl
theorem dX11_set_64 : decode cX11_set 64 = .ok (.iload_n 3, 1) := dk_get dk_d02_245 8 rfl
theorem dX11_set_65 : decode cX11_set 65 = .ok (.invokevirtual 102, 3) := dk_get dk_d02_245 9 rfl
theorem dX11_set_68 : decode cX11_set 68 = .ok (.aload_n 0, 1) := dk_get dk_d02_245 10 rfl
theorem dX11_set_69 : decode cX11_set 69 = .ok (.getfield 26, 3) := dk_get dk_d02_245 11 rfl
theorem dX11_set_72 : decode cX11_set 72 = .ok (.invokevirtual 92, 3) := dk_get dk_d02_245 12 rfl
theorem dX11_set_75 : decode cX11_set 75 = .ok (.iconst 1, 1) := dk_get dk_d02_245 13 rfl
theorem dX11_set_76 : decode cX11_set 76 = .ok (.ireturn, 1) := dk_get dk_d02_245 14 rfl
theorem dk_d02_246 : dkc cX11_press [(0, .aload_n 0, 1), (1, .getfield 12, 3), (4, .getfield 67, 3), (7, .iload_n 1, 1), (8, .invokevirtual 113, 3), (11, .ifCond .eq 13, 3), (14, .iload_n 2, 1), (15, .ifCond .lt 9, 3), (18, .iload_n 2, 1), (19, .bipush 12, 2), (21, .if_icmp .lt 5, 3), (24, .iconst (-1), 1), (25, .ireturn, 1), (26, .aload_n 0, 1), (27, .getfield 26, 3), (30, .aload_n 0, 1), (31, .getfield 12, 3), (34, .getfield 67, 3), (37, .invokevirtual 116, 3), (40, .aload_n 0, 1), (41, .getfield 81, 3), (44, .iload_n 1, 1), (45, .iload_n 2, 1), (46, .invokevirtual 120, 3), (49, .ireturn, 1)] = true := by decide +kernel
theorem dX11_press_0 : decode cX11_press 0 = .ok (.aload_n 0, 1) := dk_get dk_d02_246 0 rfl
theorem dX11_press_1 : decode cX11_press 1 = .ok (.getfield 12, 3) := dk_get dk_d02_246 1 rfl
theorem dX11_press_4 : decode cX11_press 4 = .ok (.getfield 67, 3) := dk_get dk_d02_246 2 rfl
theorem dX11_press_7 : decode cX11_press 7 = .ok (.iload_n 1, 1) := dk_get dk_d02_246 3 rfl
theorem dX11_press_8 : decode cX11_press 8 = .ok (.invokevirtual 113, 3) := dk_get dk_d02_246 4 rfl
theorem dX11_press_11 : decode cX11_press 11 = .ok (.ifCond .eq 13, 3) := dk_get dk_d02_246 5 rfl
theorem dX11_press_14 : decode cX11_press 14 = .ok (.iload_n 2, 1) := dk_get dk_d02_246 6 rfl
theorem dX11_press_15 : decode cX11_press 15 = .ok (.ifCond .lt 9, 3) := dk_get dk_d02_246 7 rfl
theorem dX11_press_18 : decode cX11_press 18 = .ok (.iload_n 2, 1) := dk_get dk_d02_246 8 rfl
theorem dX11_press_19 : decode cX11_press 19 = .ok (.bipush 12, 2) := dk_get dk_d02_246 9 rfl
theorem dX11_press_21 : decode cX11_press 21 = .ok (.if_icmp .lt 5, 3) := dk_get dk_d02_246 10 rfl
theorem dX11_press_24 : decode cX11_press 24 = .ok (.iconst (-1), 1) := dk_get dk_d02_246 11 rfl
theorem dX11_press_25 : decode cX11_press 25 = .ok (.ireturn, 1) := dk_get dk_d02_246 12 rfl
theorem dX11_press_26 : decode cX11_press 26 = .ok (.aload_n 0, 1) := dk_get dk_d02_246 13 rfl
theorem dX11_press_27 : decode cX11_press 27 = .ok (.getfield 26, 3) := dk_get dk_d02_246 14 rfl
theorem dX11_press_30 : decode cX11_press 30 = .ok (.aload_n 0, 1) := dk_get dk_d02_246 15 rfl
theorem dX11_press_31 : decode cX11_press 31 = .ok (.getfield 12, 3) := dk_get dk_d02_246 16 rfl
theorem dX11_press_34 : decode cX11_press 34 = .ok (.getfield 67, 3) := dk_get dk_d02_246 17 rfl
theorem dX11_press_37 : decode cX11_press 37 = .ok (.invokevirtual 116, 3) := dk_get dk_d02_246 18 rfl
theorem dX11_press_40 : decode cX11_press 40 = .ok (.aload_n 0, 1) := dk_get dk_d02_246 19 rfl
theorem dX11_press_41 : decode cX11_press 41 = .ok (.getfield 81, 3) := dk_get dk_d02_246 20 rfl
theorem dX11_press_44 : decode cX11_press 44 = .ok (.iload_n 1, 1) := dk_get dk_d02_246 21 rfl
theorem dX11_press_45 : decode cX11_press 45 = .ok (.iload_n 2, 1) := dk_get dk_d02_246 22 rfl
theorem dX11_press_46 : decode cX11_press 46 = .ok (.invokevirtual 120, 3) := dk_get dk_d02_246 23 rfl
theorem dX11_press_49 : decode cX11_press 49 = .ok (.ireturn, 1) := dk_get dk_d02_246 24 rfl
theorem dk_d02_247 : dkc cX11_lift [(0, .iload_n 1, 1), (1, .iload_n 2, 1), (2, .invokestatic 124, 3), (5, .istore_n 3, 1), (6, .aload_n 0, 1), (7, .getfield 12, 3), (10, .getfield 67, 3), (13, .iload_n 3, 1), (14, .invokevirtual 127, 3), (17, .ifCond .ne 5, 3), (20, .iconst 0, 1), (21, .ireturn, 1), (22, .aload_n 0, 1), (23, .getfield 26, 3), (26, .aload_n 0, 1), (27, .getfield 12, 3), (30, .getfield 67, 3), (33, .invokevirtual 116, 3), (36, .aload_n 0, 1), (37, .getfield 81, 3), (40, .iload_n 3, 1), (41, .iconst 3, 1), (42, .invokevirtual 130, 3), (45, .iconst 1, 1), (46, .ireturn, 1)] = true := by decide +kernel
theorem dX11_lift_0 : decode cX11_lift 0 = .ok (.iload_n 1, 1) := dk_get dk_d02_247 0 rfl
theorem dX11_lift_1 : decode cX11_lift 1 = .ok (.iload_n 2, 1) := dk_get dk_d02_247 1 rfl
theorem dX11_lift_2 : decode cX11_lift 2 = .ok (.invokestatic 124, 3) := dk_get dk_d02_247 2 rfl
theorem dX11_lift_5 : decode cX11_lift 5 = .ok (.istore_n 3, 1) := dk_get dk_d02_247 3 rfl
theorem dX11_lift_6 : decode cX11_lift 6 = .ok (.aload_n 0, 1) := dk_get dk_d02_247 4 rfl
theorem dX11_lift_7 : decode cX11_lift 7 = .ok (.getfield 12, 3) := dk_get dk_d02_247 5 rfl
theorem dX11_lift_10 : decode cX11_lift 10 = .ok (.getfield 67, 3) := dk_get dk_d02_247 6 rfl
theorem dX11_lift_13 : decode cX11_lift 13 = .ok (.iload_n 3, 1) := dk_get dk_d02_247 7 rfl
theorem dX11_lift_14 : decode cX11_lift 14 = .ok (.invokevirtual 127, 3) := dk_get dk_d02_247 8 rfl
theorem dX11_lift_17 : decode cX11_lift 17 = .ok (.ifCond .ne 5, 3) := dk_get dk_d02_247 9 rfl
theorem dX11_lift_20 : decode cX11_lift 20 = .ok (.iconst 0, 1) := dk_get dk_d02_247 10 rfl
theorem dX11_lift_21 : decode cX11_lift 21 = .ok (.ireturn, 1) := dk_get dk_d02_247 11 rfl
theorem dX11_lift_22 : decode cX11_lift 22 = .ok (.aload_n 0, 1) := dk_get dk_d02_247 12 rfl
theorem dX11_lift_23 : decode cX11_lift 23 = .ok (.getfield 26, 3) := dk_get dk_d02_247 13 rfl
theorem dX11_lift_26 : decode cX11_lift 26 = .ok (.aload_n 0, 1) := dk_get dk_d02_247 14 rfl
theorem dX11_lift_27 : decode cX11_lift 27 = .ok (.getfield 12, 3) := dk_get dk_d02_247 15 rfl
theorem dX11_lift_30 : decode cX11_lift 30 = .ok (.getfield 67, 3) := dk_get dk_d02_247 16 rfl
theorem dX11_lift_33 : decode cX11_lift 33 = .ok (.invokevirtual 116, 3) := dk_get dk_d02_247 17 rfl
theorem dX11_lift_36 : decode cX11_lift 36 = .ok (.aload_n 0, 1) := dk_get dk_d02_247 18 rfl
theorem dX11_lift_37 : decode cX11_lift 37 = .ok (.getfield 81, 3) := dk_get dk_d02_247 19 rfl
theorem dX11_lift_40 : decode cX11_lift 40 = .ok (.iload_n 3, 1) := dk_get dk_d02_247 20 rfl
theorem dX11_lift_41 : decode cX11_lift 41 = .ok (.iconst 3, 1) := dk_get dk_d02_247 21 rfl
theorem dX11_lift_42 : decode cX11_lift 42 = .ok (.invokevirtual 130, 3) := dk_get dk_d02_247 22 rfl
theorem dX11_lift_45 : decode cX11_lift 45 = .ok (.iconst 1, 1) := dk_get dk_d02_247 23 rfl
theorem dX11_lift_46 : decode cX11_lift 46 = .ok (.ireturn, 1) := dk_get dk_d02_247 24 rfl
theorem dk_d02_248 : dkc cX11_hand [(0, .aload_n 0, 1), (1, .getfield 12, 3), (4, .getfield 67, 3), (7, .iload_n 1, 1), (8, .invokevirtual 109, 3), (11, .ifCond .eq 28, 3), (14, .iload_n 2, 1), (15, .ifCond .lt 24, 3), (18, .iload_n 2, 1), (19, .iconst 2, 1), (20, .if_icmp .gt 19, 3), (23, .aload_n 0, 1), (24, .getfield 12, 3), (27, .getfield 67, 3), (30, .iload_n 1, 1), (31, .iconst 4, 1), (32, .invokevirtual 134, 3), (35, .iload_n 2, 1), (36, .if_icmp .ne 5, 3), (39, .iconst 0, 1), (40, .ireturn, 1), (41, .aload_n 0, 1), (42, .getfield 26, 3), (45, .aload_n 0, 1), (46, .getfield 12, 3)] = true := by decide +kernel
theorem dX11_hand_0 : decode cX11_hand 0 = .ok (.aload_n 0, 1) := dk_get dk_d02_248 0 rfl
theorem dX11_hand_1 : decode cX11_hand 1 = .ok (.getfield 12, 3) := dk_get dk_d02_248 1 rfl
theorem dX11_hand_4 : decode cX11_hand 4 = .ok (.getfield 67, 3) := dk_get dk_d02_248 2 rfl
theorem dX11_hand_7 : decode cX11_hand 7 = .ok (.iload_n 1, 1) := dk_get dk_d02_248 3 rfl
theorem dX11_hand_8 : decode cX11_hand 8 = .ok (.invokevirtual 109, 3) := dk_get dk_d02_248 4 rfl
theorem dX11_hand_11 : decode cX11_hand 11 = .ok (.ifCond .eq 28, 3) := dk_get dk_d02_248 5 rfl
theorem dX11_hand_14 : decode cX11_hand 14 = .ok (.iload_n 2, 1) := dk_get dk_d02_248 6 rfl
theorem dX11_hand_15 : decode cX11_hand 15 = .ok (.ifCond .lt 24, 3) := dk_get dk_d02_248 7 rfl
theorem dX11_hand_18 : decode cX11_hand 18 = .ok (.iload_n 2, 1) := dk_get dk_d02_248 8 rfl
theorem dX11_hand_19 : decode cX11_hand 19 = .ok (.iconst 2, 1) := dk_get dk_d02_248 9 rfl
theorem dX11_hand_20 : decode cX11_hand 20 = .ok (.if_icmp .gt 19, 3) := dk_get dk_d02_248 10 rfl
theorem dX11_hand_23 : decode cX11_hand 23 = .ok (.aload_n 0, 1) := dk_get dk_d02_248 11 rfl
theorem dX11_hand_24 : decode cX11_hand 24 = .ok (.getfield 12, 3) := dk_get dk_d02_248 12 rfl
theorem dX11_hand_27 : decode cX11_hand 27 = .ok (.getfield 67, 3) := dk_get dk_d02_248 13 rfl
theorem dX11_hand_30 : decode cX11_hand 30 = .ok (.iload_n 1, 1) := dk_get dk_d02_248 14 rfl
theorem dX11_hand_31 : decode cX11_hand 31 = .ok (.iconst 4, 1) := dk_get dk_d02_248 15 rfl
theorem dX11_hand_32 : decode cX11_hand 32 = .ok (.invokevirtual 134, 3) := dk_get dk_d02_248 16 rfl
theorem dX11_hand_35 : decode cX11_hand 35 = .ok (.iload_n 2, 1) := dk_get dk_d02_248 17 rfl
theorem dX11_hand_36 : decode cX11_hand 36 = .ok (.if_icmp .ne 5, 3) := dk_get dk_d02_248 18 rfl
theorem dX11_hand_39 : decode cX11_hand 39 = .ok (.iconst 0, 1) := dk_get dk_d02_248 19 rfl
theorem dX11_hand_40 : decode cX11_hand 40 = .ok (.ireturn, 1) := dk_get dk_d02_248 20 rfl
theorem dX11_hand_41 : decode cX11_hand 41 = .ok (.aload_n 0, 1) := dk_get dk_d02_248 21 rfl
theorem dX11_hand_42 : decode cX11_hand 42 = .ok (.getfield 26, 3) := dk_get dk_d02_248 22 rfl
theorem dX11_hand_45 : decode cX11_hand 45 = .ok (.aload_n 0, 1) := dk_get dk_d02_248 23 rfl
theorem dX11_hand_46 : decode cX11_hand 46 = .ok (.getfield 12, 3) := dk_get dk_d02_248 24 rfl
theorem dk_d02_249 : dkc cX11_hand [(49, .getfield 67, 3), (52, .invokevirtual 116, 3), (55, .aload_n 0, 1), (56, .getfield 12, 3), (59, .getfield 67, 3), (62, .iload_n 1, 1), (63, .iconst 4, 1), (64, .iload_n 2, 1), (65, .invokevirtual 102, 3), (68, .iconst 1, 1), (69, .ireturn, 1)] = true := by decide +kernel
theorem dX11_hand_49 : decode cX11_hand 49 = .ok (.getfield 67, 3) := dk_get dk_d02_249 0 rfl
theorem dX11_hand_52 : decode cX11_hand 52 = .ok (.invokevirtual 116, 3) := dk_get dk_d02_249 1 rfl
theorem dX11_hand_55 : decode cX11_hand 55 = .ok (.aload_n 0, 1) := dk_get dk_d02_249 2 rfl
theorem dX11_hand_56 : decode cX11_hand 56 = .ok (.getfield 12, 3) := dk_get dk_d02_249 3 rfl
theorem dX11_hand_59 : decode cX11_hand 59 = .ok (.getfield 67, 3) := dk_get dk_d02_249 4 rfl
theorem dX11_hand_62 : decode cX11_hand 62 = .ok (.iload_n 1, 1) := dk_get dk_d02_249 5 rfl
theorem dX11_hand_63 : decode cX11_hand 63 = .ok (.iconst 4, 1) := dk_get dk_d02_249 6 rfl
theorem dX11_hand_64 : decode cX11_hand 64 = .ok (.iload_n 2, 1) := dk_get dk_d02_249 7 rfl
theorem dX11_hand_65 : decode cX11_hand 65 = .ok (.invokevirtual 102, 3) := dk_get dk_d02_249 8 rfl
theorem dX11_hand_68 : decode cX11_hand 68 = .ok (.iconst 1, 1) := dk_get dk_d02_249 9 rfl
theorem dX11_hand_69 : decode cX11_hand 69 = .ok (.ireturn, 1) := dk_get dk_d02_249 10 rfl
theorem dk_d02_250 : dkc cX11_hours [(0, .iload_n 1, 1), (1, .iconst 1, 1), (2, .if_icmp .lt 41, 3), (5, .iload_n 1, 1), (6, .bipush 60, 2), (8, .if_icmp .gt 35, 3), (11, .aload_n 0, 1), (12, .getfield 12, 3), (15, .getfield 67, 3), (18, .getfield 137, 3), (21, .aload_n 0, 1), (22, .getfield 12, 3), (25, .getfield 67, 3), (28, .getfield 140, 3), (31, .iload_n 1, 1), (32, .iadd, 1), (33, .bipush 12, 2), (35, .idiv, 1), (36, .iadd, 1), (37, .sipush 9990, 3), (40, .if_icmp .le 5, 3), (43, .iconst (-1), 1), (44, .ireturn, 1), (45, .iconst 0, 1), (46, .istore_n 2, 1)] = true := by decide +kernel
theorem dX11_hours_0 : decode cX11_hours 0 = .ok (.iload_n 1, 1) := dk_get dk_d02_250 0 rfl
theorem dX11_hours_1 : decode cX11_hours 1 = .ok (.iconst 1, 1) := dk_get dk_d02_250 1 rfl
theorem dX11_hours_2 : decode cX11_hours 2 = .ok (.if_icmp .lt 41, 3) := dk_get dk_d02_250 2 rfl
theorem dX11_hours_5 : decode cX11_hours 5 = .ok (.iload_n 1, 1) := dk_get dk_d02_250 3 rfl
theorem dX11_hours_6 : decode cX11_hours 6 = .ok (.bipush 60, 2) := dk_get dk_d02_250 4 rfl
theorem dX11_hours_8 : decode cX11_hours 8 = .ok (.if_icmp .gt 35, 3) := dk_get dk_d02_250 5 rfl
theorem dX11_hours_11 : decode cX11_hours 11 = .ok (.aload_n 0, 1) := dk_get dk_d02_250 6 rfl
theorem dX11_hours_12 : decode cX11_hours 12 = .ok (.getfield 12, 3) := dk_get dk_d02_250 7 rfl
theorem dX11_hours_15 : decode cX11_hours 15 = .ok (.getfield 67, 3) := dk_get dk_d02_250 8 rfl
theorem dX11_hours_18 : decode cX11_hours 18 = .ok (.getfield 137, 3) := dk_get dk_d02_250 9 rfl
theorem dX11_hours_21 : decode cX11_hours 21 = .ok (.aload_n 0, 1) := dk_get dk_d02_250 10 rfl
theorem dX11_hours_22 : decode cX11_hours 22 = .ok (.getfield 12, 3) := dk_get dk_d02_250 11 rfl
theorem dX11_hours_25 : decode cX11_hours 25 = .ok (.getfield 67, 3) := dk_get dk_d02_250 12 rfl
theorem dX11_hours_28 : decode cX11_hours 28 = .ok (.getfield 140, 3) := dk_get dk_d02_250 13 rfl
theorem dX11_hours_31 : decode cX11_hours 31 = .ok (.iload_n 1, 1) := dk_get dk_d02_250 14 rfl
theorem dX11_hours_32 : decode cX11_hours 32 = .ok (.iadd, 1) := dk_get dk_d02_250 15 rfl
theorem dX11_hours_33 : decode cX11_hours 33 = .ok (.bipush 12, 2) := dk_get dk_d02_250 16 rfl
theorem dX11_hours_35 : decode cX11_hours 35 = .ok (.idiv, 1) := dk_get dk_d02_250 17 rfl
theorem dX11_hours_36 : decode cX11_hours 36 = .ok (.iadd, 1) := dk_get dk_d02_250 18 rfl
theorem dX11_hours_37 : decode cX11_hours 37 = .ok (.sipush 9990, 3) := dk_get dk_d02_250 19 rfl
theorem dX11_hours_40 : decode cX11_hours 40 = .ok (.if_icmp .le 5, 3) := dk_get dk_d02_250 20 rfl
theorem dX11_hours_43 : decode cX11_hours 43 = .ok (.iconst (-1), 1) := dk_get dk_d02_250 21 rfl
theorem dX11_hours_44 : decode cX11_hours 44 = .ok (.ireturn, 1) := dk_get dk_d02_250 22 rfl
theorem dX11_hours_45 : decode cX11_hours 45 = .ok (.iconst 0, 1) := dk_get dk_d02_250 23 rfl
theorem dX11_hours_46 : decode cX11_hours 46 = .ok (.istore_n 2, 1) := dk_get dk_d02_250 24 rfl
theorem dk_d02_251 : dkc cX11_hours [(47, .iconst 0, 1), (48, .istore_n 3, 1), (49, .iload_n 3, 1), (50, .iload_n 1, 1), (51, .if_icmp .ge 41, 3), (54, .iload_n 1, 1), (55, .iload_n 3, 1), (56, .isub, 1), (57, .bipush 6, 2), (59, .if_icmp .gt 17, 3), (62, .aload_n 0, 1), (63, .getfield 26, 3), (66, .aload_n 0, 1), (67, .getfield 12, 3), (70, .getfield 67, 3), (73, .invokevirtual 116, 3), (76, .iload_n 2, 1), (77, .aload_n 0, 1), (78, .getfield 81, 3), (81, .invokevirtual 143, 3), (84, .iadd, 1), (85, .istore_n 2, 1), (86, .iinc 3 1, 3), (89, .goto (-40), 3), (92, .iload_n 2, 1)] = true := by decide +kernel
theorem dX11_hours_47 : decode cX11_hours 47 = .ok (.iconst 0, 1) := dk_get dk_d02_251 0 rfl
theorem dX11_hours_48 : decode cX11_hours 48 = .ok (.istore_n 3, 1) := dk_get dk_d02_251 1 rfl
theorem dX11_hours_49 : decode cX11_hours 49 = .ok (.iload_n 3, 1) := dk_get dk_d02_251 2 rfl
theorem dX11_hours_50 : decode cX11_hours 50 = .ok (.iload_n 1, 1) := dk_get dk_d02_251 3 rfl
theorem dX11_hours_51 : decode cX11_hours 51 = .ok (.if_icmp .ge 41, 3) := dk_get dk_d02_251 4 rfl
theorem dX11_hours_54 : decode cX11_hours 54 = .ok (.iload_n 1, 1) := dk_get dk_d02_251 5 rfl
theorem dX11_hours_55 : decode cX11_hours 55 = .ok (.iload_n 3, 1) := dk_get dk_d02_251 6 rfl
theorem dX11_hours_56 : decode cX11_hours 56 = .ok (.isub, 1) := dk_get dk_d02_251 7 rfl
theorem dX11_hours_57 : decode cX11_hours 57 = .ok (.bipush 6, 2) := dk_get dk_d02_251 8 rfl
theorem dX11_hours_59 : decode cX11_hours 59 = .ok (.if_icmp .gt 17, 3) := dk_get dk_d02_251 9 rfl
theorem dX11_hours_62 : decode cX11_hours 62 = .ok (.aload_n 0, 1) := dk_get dk_d02_251 10 rfl
theorem dX11_hours_63 : decode cX11_hours 63 = .ok (.getfield 26, 3) := dk_get dk_d02_251 11 rfl
theorem dX11_hours_66 : decode cX11_hours 66 = .ok (.aload_n 0, 1) := dk_get dk_d02_251 12 rfl
theorem dX11_hours_67 : decode cX11_hours 67 = .ok (.getfield 12, 3) := dk_get dk_d02_251 13 rfl
theorem dX11_hours_70 : decode cX11_hours 70 = .ok (.getfield 67, 3) := dk_get dk_d02_251 14 rfl
theorem dX11_hours_73 : decode cX11_hours 73 = .ok (.invokevirtual 116, 3) := dk_get dk_d02_251 15 rfl
theorem dX11_hours_76 : decode cX11_hours 76 = .ok (.iload_n 2, 1) := dk_get dk_d02_251 16 rfl
theorem dX11_hours_77 : decode cX11_hours 77 = .ok (.aload_n 0, 1) := dk_get dk_d02_251 17 rfl
theorem dX11_hours_78 : decode cX11_hours 78 = .ok (.getfield 81, 3) := dk_get dk_d02_251 18 rfl
theorem dX11_hours_81 : decode cX11_hours 81 = .ok (.invokevirtual 143, 3) := dk_get dk_d02_251 19 rfl
theorem dX11_hours_84 : decode cX11_hours 84 = .ok (.iadd, 1) := dk_get dk_d02_251 20 rfl
theorem dX11_hours_85 : decode cX11_hours 85 = .ok (.istore_n 2, 1) := dk_get dk_d02_251 21 rfl
theorem dX11_hours_86 : decode cX11_hours 86 = .ok (.iinc 3 1, 3) := dk_get dk_d02_251 22 rfl
theorem dX11_hours_89 : decode cX11_hours 89 = .ok (.goto (-40), 3) := dk_get dk_d02_251 23 rfl
theorem dX11_hours_92 : decode cX11_hours 92 = .ok (.iload_n 2, 1) := dk_get dk_d02_251 24 rfl
theorem dk_d02_252 : dkc cX11_hours [(93, .ireturn, 1)] = true := by decide +kernel
theorem dX11_hours_93 : decode cX11_hours 93 = .ok (.ireturn, 1) := dk_get dk_d02_252 0 rfl
theorem dk_d02_253 : dkc cX11_feed [(0, .aload_n 0, 1), (1, .getfield 33, 3), (4, .getfield 147, 3), (7, .bipush 20, 2), (9, .iadd, 1), (10, .sipush 400, 3), (13, .if_icmp .le 5, 3), (16, .iconst (-1), 1), (17, .ireturn, 1), (18, .aload_n 0, 1), (19, .getfield 33, 3), (22, .iload_n 1, 1), (23, .invokevirtual 150, 3), (26, .aload_n 0, 1), (27, .getfield 33, 3), (30, .iload_n 2, 1), (31, .invokevirtual 150, 3), (34, .aload_n 0, 1), (35, .getfield 33, 3), (38, .iload_n 3, 1), (39, .invokevirtual 150, 3), (42, .aload_n 0, 1), (43, .getfield 33, 3), (46, .iload 4, 2), (48, .invokevirtual 150, 3)] = true := by decide +kernel
theorem dX11_feed_0 : decode cX11_feed 0 = .ok (.aload_n 0, 1) := dk_get dk_d02_253 0 rfl
theorem dX11_feed_1 : decode cX11_feed 1 = .ok (.getfield 33, 3) := dk_get dk_d02_253 1 rfl
theorem dX11_feed_4 : decode cX11_feed 4 = .ok (.getfield 147, 3) := dk_get dk_d02_253 2 rfl
theorem dX11_feed_7 : decode cX11_feed 7 = .ok (.bipush 20, 2) := dk_get dk_d02_253 3 rfl
theorem dX11_feed_9 : decode cX11_feed 9 = .ok (.iadd, 1) := dk_get dk_d02_253 4 rfl
theorem dX11_feed_10 : decode cX11_feed 10 = .ok (.sipush 400, 3) := dk_get dk_d02_253 5 rfl
theorem dX11_feed_13 : decode cX11_feed 13 = .ok (.if_icmp .le 5, 3) := dk_get dk_d02_253 6 rfl
theorem dX11_feed_16 : decode cX11_feed 16 = .ok (.iconst (-1), 1) := dk_get dk_d02_253 7 rfl
theorem dX11_feed_17 : decode cX11_feed 17 = .ok (.ireturn, 1) := dk_get dk_d02_253 8 rfl
theorem dX11_feed_18 : decode cX11_feed 18 = .ok (.aload_n 0, 1) := dk_get dk_d02_253 9 rfl
theorem dX11_feed_19 : decode cX11_feed 19 = .ok (.getfield 33, 3) := dk_get dk_d02_253 10 rfl
theorem dX11_feed_22 : decode cX11_feed 22 = .ok (.iload_n 1, 1) := dk_get dk_d02_253 11 rfl
theorem dX11_feed_23 : decode cX11_feed 23 = .ok (.invokevirtual 150, 3) := dk_get dk_d02_253 12 rfl
theorem dX11_feed_26 : decode cX11_feed 26 = .ok (.aload_n 0, 1) := dk_get dk_d02_253 13 rfl
theorem dX11_feed_27 : decode cX11_feed 27 = .ok (.getfield 33, 3) := dk_get dk_d02_253 14 rfl
theorem dX11_feed_30 : decode cX11_feed 30 = .ok (.iload_n 2, 1) := dk_get dk_d02_253 15 rfl
theorem dX11_feed_31 : decode cX11_feed 31 = .ok (.invokevirtual 150, 3) := dk_get dk_d02_253 16 rfl
theorem dX11_feed_34 : decode cX11_feed 34 = .ok (.aload_n 0, 1) := dk_get dk_d02_253 17 rfl
theorem dX11_feed_35 : decode cX11_feed 35 = .ok (.getfield 33, 3) := dk_get dk_d02_253 18 rfl
theorem dX11_feed_38 : decode cX11_feed 38 = .ok (.iload_n 3, 1) := dk_get dk_d02_253 19 rfl
theorem dX11_feed_39 : decode cX11_feed 39 = .ok (.invokevirtual 150, 3) := dk_get dk_d02_253 20 rfl
theorem dX11_feed_42 : decode cX11_feed 42 = .ok (.aload_n 0, 1) := dk_get dk_d02_253 21 rfl
theorem dX11_feed_43 : decode cX11_feed 43 = .ok (.getfield 33, 3) := dk_get dk_d02_253 22 rfl
theorem dX11_feed_46 : decode cX11_feed 46 = .ok (.iload 4, 2) := dk_get dk_d02_253 23 rfl
theorem dX11_feed_48 : decode cX11_feed 48 = .ok (.invokevirtual 150, 3) := dk_get dk_d02_253 24 rfl
theorem dk_d02_254 : dkc cX11_feed [(51, .aload_n 0, 1), (52, .getfield 33, 3), (55, .iload 5, 2), (57, .invokevirtual 150, 3), (60, .aload_n 0, 1), (61, .getfield 33, 3), (64, .getfield 147, 3), (67, .ireturn, 1)] = true := by decide +kernel
theorem dX11_feed_51 : decode cX11_feed 51 = .ok (.aload_n 0, 1) := dk_get dk_d02_254 0 rfl
theorem dX11_feed_52 : decode cX11_feed 52 = .ok (.getfield 33, 3) := dk_get dk_d02_254 1 rfl
theorem dX11_feed_55 : decode cX11_feed 55 = .ok (.iload 5, 2) := dk_get dk_d02_254 2 rfl
theorem dX11_feed_57 : decode cX11_feed 57 = .ok (.invokevirtual 150, 3) := dk_get dk_d02_254 3 rfl
theorem dX11_feed_60 : decode cX11_feed 60 = .ok (.aload_n 0, 1) := dk_get dk_d02_254 4 rfl
theorem dX11_feed_61 : decode cX11_feed 61 = .ok (.getfield 33, 3) := dk_get dk_d02_254 5 rfl
theorem dX11_feed_64 : decode cX11_feed 64 = .ok (.getfield 147, 3) := dk_get dk_d02_254 6 rfl
theorem dX11_feed_67 : decode cX11_feed 67 = .ok (.ireturn, 1) := dk_get dk_d02_254 7 rfl
theorem dk_d02_255 : dkc cX11_end [(0, .iload_n 1, 1), (1, .ifCond .lt 14, 3), (4, .iload_n 1, 1), (5, .aload_n 0, 1), (6, .getfield 33, 3), (9, .getfield 147, 3), (12, .if_icmp .le 5, 3), (15, .iconst 0, 1), (16, .ireturn, 1), (17, .aload_n 0, 1), (18, .getfield 33, 3), (21, .iload_n 1, 1), (22, .putfield 147, 3), (25, .iconst 1, 1), (26, .ireturn, 1)] = true := by decide +kernel
theorem dX11_end_0 : decode cX11_end 0 = .ok (.iload_n 1, 1) := dk_get dk_d02_255 0 rfl
theorem dX11_end_1 : decode cX11_end 1 = .ok (.ifCond .lt 14, 3) := dk_get dk_d02_255 1 rfl
theorem dX11_end_4 : decode cX11_end 4 = .ok (.iload_n 1, 1) := dk_get dk_d02_255 2 rfl
theorem dX11_end_5 : decode cX11_end 5 = .ok (.aload_n 0, 1) := dk_get dk_d02_255 3 rfl
theorem dX11_end_6 : decode cX11_end 6 = .ok (.getfield 33, 3) := dk_get dk_d02_255 4 rfl
theorem dX11_end_9 : decode cX11_end 9 = .ok (.getfield 147, 3) := dk_get dk_d02_255 5 rfl
theorem dX11_end_12 : decode cX11_end 12 = .ok (.if_icmp .le 5, 3) := dk_get dk_d02_255 6 rfl
theorem dX11_end_15 : decode cX11_end 15 = .ok (.iconst 0, 1) := dk_get dk_d02_255 7 rfl
theorem dX11_end_16 : decode cX11_end 16 = .ok (.ireturn, 1) := dk_get dk_d02_255 8 rfl
theorem dX11_end_17 : decode cX11_end 17 = .ok (.aload_n 0, 1) := dk_get dk_d02_255 9 rfl
theorem dX11_end_18 : decode cX11_end 18 = .ok (.getfield 33, 3) := dk_get dk_d02_255 10 rfl
theorem dX11_end_21 : decode cX11_end 21 = .ok (.iload_n 1, 1) := dk_get dk_d02_255 11 rfl
theorem dX11_end_22 : decode cX11_end 22 = .ok (.putfield 147, 3) := dk_get dk_d02_255 12 rfl
theorem dX11_end_25 : decode cX11_end 25 = .ok (.iconst 1, 1) := dk_get dk_d02_255 13 rfl
theorem dX11_end_26 : decode cX11_end 26 = .ok (.ireturn, 1) := dk_get dk_d02_255 14 rfl
theorem dk_d02_256 : dkc cX11_text [(0, .aload_n 0, 1), (1, .getfield 33, 3), (4, .iload_n 1, 1), (5, .aload_n 0, 1), (6, .getfield 12, 3), (9, .getfield 67, 3), (12, .getfield 99, 3), (15, .invokevirtual 154, 3), (18, .astore_n 2, 1), (19, .aload_n 2, 1), (20, .ifnull 12, 3), (23, .iload_n 1, 1), (24, .ifCond .lt 8, 3), (27, .iload_n 1, 1), (28, .iconst 4, 1), (29, .if_icmp .lt 5, 3), (32, .iconst (-1), 1), (33, .ireturn, 1), (34, .aload_n 0, 1), (35, .getfield 12, 3), (38, .getfield 70, 3), (41, .iload_n 1, 1), (42, .aload_n 2, 1), (43, .aastore, 1), (44, .iload_n 1, 1)] = true := by decide +kernel
theorem dX11_text_0 : decode cX11_text 0 = .ok (.aload_n 0, 1) := dk_get dk_d02_256 0 rfl
theorem dX11_text_1 : decode cX11_text 1 = .ok (.getfield 33, 3) := dk_get dk_d02_256 1 rfl
theorem dX11_text_4 : decode cX11_text 4 = .ok (.iload_n 1, 1) := dk_get dk_d02_256 2 rfl
theorem dX11_text_5 : decode cX11_text 5 = .ok (.aload_n 0, 1) := dk_get dk_d02_256 3 rfl
theorem dX11_text_6 : decode cX11_text 6 = .ok (.getfield 12, 3) := dk_get dk_d02_256 4 rfl
theorem dX11_text_9 : decode cX11_text 9 = .ok (.getfield 67, 3) := dk_get dk_d02_256 5 rfl
theorem dX11_text_12 : decode cX11_text 12 = .ok (.getfield 99, 3) := dk_get dk_d02_256 6 rfl
theorem dX11_text_15 : decode cX11_text 15 = .ok (.invokevirtual 154, 3) := dk_get dk_d02_256 7 rfl
theorem dX11_text_18 : decode cX11_text 18 = .ok (.astore_n 2, 1) := dk_get dk_d02_256 8 rfl
theorem dX11_text_19 : decode cX11_text 19 = .ok (.aload_n 2, 1) := dk_get dk_d02_256 9 rfl
theorem dX11_text_20 : decode cX11_text 20 = .ok (.ifnull 12, 3) := dk_get dk_d02_256 10 rfl
theorem dX11_text_23 : decode cX11_text 23 = .ok (.iload_n 1, 1) := dk_get dk_d02_256 11 rfl
theorem dX11_text_24 : decode cX11_text 24 = .ok (.ifCond .lt 8, 3) := dk_get dk_d02_256 12 rfl
theorem dX11_text_27 : decode cX11_text 27 = .ok (.iload_n 1, 1) := dk_get dk_d02_256 13 rfl
theorem dX11_text_28 : decode cX11_text 28 = .ok (.iconst 4, 1) := dk_get dk_d02_256 14 rfl
theorem dX11_text_29 : decode cX11_text 29 = .ok (.if_icmp .lt 5, 3) := dk_get dk_d02_256 15 rfl
theorem dX11_text_32 : decode cX11_text 32 = .ok (.iconst (-1), 1) := dk_get dk_d02_256 16 rfl
theorem dX11_text_33 : decode cX11_text 33 = .ok (.ireturn, 1) := dk_get dk_d02_256 17 rfl
theorem dX11_text_34 : decode cX11_text 34 = .ok (.aload_n 0, 1) := dk_get dk_d02_256 18 rfl
theorem dX11_text_35 : decode cX11_text 35 = .ok (.getfield 12, 3) := dk_get dk_d02_256 19 rfl
theorem dX11_text_38 : decode cX11_text 38 = .ok (.getfield 70, 3) := dk_get dk_d02_256 20 rfl
theorem dX11_text_41 : decode cX11_text 41 = .ok (.iload_n 1, 1) := dk_get dk_d02_256 21 rfl
theorem dX11_text_42 : decode cX11_text 42 = .ok (.aload_n 2, 1) := dk_get dk_d02_256 22 rfl
theorem dX11_text_43 : decode cX11_text 43 = .ok (.aastore, 1) := dk_get dk_d02_256 23 rfl
theorem dX11_text_44 : decode cX11_text 44 = .ok (.iload_n 1, 1) := dk_get dk_d02_256 24 rfl
theorem dk_d02_257 : dkc cX11_text [(45, .iconst 1, 1), (46, .if_icmp .eq 8, 3), (49, .iload_n 1, 1), (50, .iconst 2, 1), (51, .if_icmp .ne 10, 3), (54, .aload_n 0, 1), (55, .getfield 26, 3), (58, .invokevirtual 92, 3), (61, .aload_n 2, 1), (62, .getfield 158, 3), (65, .ireturn, 1)] = true := by decide +kernel
theorem dX11_text_45 : decode cX11_text 45 = .ok (.iconst 1, 1) := dk_get dk_d02_257 0 rfl
theorem dX11_text_46 : decode cX11_text 46 = .ok (.if_icmp .eq 8, 3) := dk_get dk_d02_257 1 rfl
theorem dX11_text_49 : decode cX11_text 49 = .ok (.iload_n 1, 1) := dk_get dk_d02_257 2 rfl
theorem dX11_text_50 : decode cX11_text 50 = .ok (.iconst 2, 1) := dk_get dk_d02_257 3 rfl
theorem dX11_text_51 : decode cX11_text 51 = .ok (.if_icmp .ne 10, 3) := dk_get dk_d02_257 4 rfl
theorem dX11_text_54 : decode cX11_text 54 = .ok (.aload_n 0, 1) := dk_get dk_d02_257 5 rfl
theorem dX11_text_55 : decode cX11_text 55 = .ok (.getfield 26, 3) := dk_get dk_d02_257 6 rfl
theorem dX11_text_58 : decode cX11_text 58 = .ok (.invokevirtual 92, 3) := dk_get dk_d02_257 7 rfl
theorem dX11_text_61 : decode cX11_text 61 = .ok (.aload_n 2, 1) := dk_get dk_d02_257 8 rfl
theorem dX11_text_62 : decode cX11_text 62 = .ok (.getfield 158, 3) := dk_get dk_d02_257 9 rfl
theorem dX11_text_65 : decode cX11_text 65 = .ok (.ireturn, 1) := dk_get dk_d02_257 10 rfl
theorem dk_d02_258 : dkc cX11_fault [(0, .iload_n 1, 1), (1, .ifCond .ne 11, 3), (4, .aload_n 0, 1), (5, .getfield 33, 3), (8, .getfield 163, 3), (11, .ireturn, 1), (12, .iload_n 1, 1), (13, .iconst 1, 1), (14, .if_icmp .ne 13, 3), (17, .aload_n 0, 1), (18, .getfield 33, 3), (21, .getfield 166, 3), (24, .goto 4, 3), (27, .iconst (-1), 1), (28, .ireturn, 1)] = true := by decide +kernel
theorem dX11_fault_0 : decode cX11_fault 0 = .ok (.iload_n 1, 1) := dk_get dk_d02_258 0 rfl
theorem dX11_fault_1 : decode cX11_fault 1 = .ok (.ifCond .ne 11, 3) := dk_get dk_d02_258 1 rfl
theorem dX11_fault_4 : decode cX11_fault 4 = .ok (.aload_n 0, 1) := dk_get dk_d02_258 2 rfl
theorem dX11_fault_5 : decode cX11_fault 5 = .ok (.getfield 33, 3) := dk_get dk_d02_258 3 rfl
theorem dX11_fault_8 : decode cX11_fault 8 = .ok (.getfield 163, 3) := dk_get dk_d02_258 4 rfl
theorem dX11_fault_11 : decode cX11_fault 11 = .ok (.ireturn, 1) := dk_get dk_d02_258 5 rfl
theorem dX11_fault_12 : decode cX11_fault 12 = .ok (.iload_n 1, 1) := dk_get dk_d02_258 6 rfl
theorem dX11_fault_13 : decode cX11_fault 13 = .ok (.iconst 1, 1) := dk_get dk_d02_258 7 rfl
theorem dX11_fault_14 : decode cX11_fault 14 = .ok (.if_icmp .ne 13, 3) := dk_get dk_d02_258 8 rfl
theorem dX11_fault_17 : decode cX11_fault 17 = .ok (.aload_n 0, 1) := dk_get dk_d02_258 9 rfl
theorem dX11_fault_18 : decode cX11_fault 18 = .ok (.getfield 33, 3) := dk_get dk_d02_258 10 rfl
theorem dX11_fault_21 : decode cX11_fault 21 = .ok (.getfield 166, 3) := dk_get dk_d02_258 11 rfl
theorem dX11_fault_24 : decode cX11_fault 24 = .ok (.goto 4, 3) := dk_get dk_d02_258 12 rfl
theorem dX11_fault_27 : decode cX11_fault 27 = .ok (.iconst (-1), 1) := dk_get dk_d02_258 13 rfl
theorem dX11_fault_28 : decode cX11_fault 28 = .ok (.ireturn, 1) := dk_get dk_d02_258 14 rfl
theorem dk_d02_259 : dkc cX11_of [(0, .aload_n 0, 1), (1, .getfield 12, 3), (4, .getfield 67, 3), (7, .iload_n 1, 1), (8, .invokevirtual 109, 3), (11, .ifCond .eq 13, 3), (14, .iload_n 2, 1), (15, .ifCond .lt 9, 3), (18, .iload_n 2, 1), (19, .bipush 7, 2), (21, .if_icmp .le 6, 3), (24, .bipush (-2), 2), (26, .ireturn, 1), (27, .iload_n 2, 1), (28, .bipush 6, 2), (30, .if_icmp .ne 12, 3), (33, .aload_n 0, 1), (34, .getfield 81, 3), (37, .iload_n 1, 1), (38, .invokevirtual 169, 3), (41, .ireturn, 1), (42, .iload_n 2, 1), (43, .bipush 7, 2), (45, .if_icmp .ne 14, 3), (48, .aload_n 0, 1)] = true := by decide +kernel
theorem dX11_of_0 : decode cX11_of 0 = .ok (.aload_n 0, 1) := dk_get dk_d02_259 0 rfl
theorem dX11_of_1 : decode cX11_of 1 = .ok (.getfield 12, 3) := dk_get dk_d02_259 1 rfl
theorem dX11_of_4 : decode cX11_of 4 = .ok (.getfield 67, 3) := dk_get dk_d02_259 2 rfl
theorem dX11_of_7 : decode cX11_of 7 = .ok (.iload_n 1, 1) := dk_get dk_d02_259 3 rfl
theorem dX11_of_8 : decode cX11_of 8 = .ok (.invokevirtual 109, 3) := dk_get dk_d02_259 4 rfl
theorem dX11_of_11 : decode cX11_of 11 = .ok (.ifCond .eq 13, 3) := dk_get dk_d02_259 5 rfl
theorem dX11_of_14 : decode cX11_of 14 = .ok (.iload_n 2, 1) := dk_get dk_d02_259 6 rfl
theorem dX11_of_15 : decode cX11_of 15 = .ok (.ifCond .lt 9, 3) := dk_get dk_d02_259 7 rfl
theorem dX11_of_18 : decode cX11_of 18 = .ok (.iload_n 2, 1) := dk_get dk_d02_259 8 rfl
theorem dX11_of_19 : decode cX11_of 19 = .ok (.bipush 7, 2) := dk_get dk_d02_259 9 rfl
theorem dX11_of_21 : decode cX11_of 21 = .ok (.if_icmp .le 6, 3) := dk_get dk_d02_259 10 rfl
theorem dX11_of_24 : decode cX11_of 24 = .ok (.bipush (-2), 2) := dk_get dk_d02_259 11 rfl
theorem dX11_of_26 : decode cX11_of 26 = .ok (.ireturn, 1) := dk_get dk_d02_259 12 rfl
theorem dX11_of_27 : decode cX11_of 27 = .ok (.iload_n 2, 1) := dk_get dk_d02_259 13 rfl
theorem dX11_of_28 : decode cX11_of 28 = .ok (.bipush 6, 2) := dk_get dk_d02_259 14 rfl
theorem dX11_of_30 : decode cX11_of 30 = .ok (.if_icmp .ne 12, 3) := dk_get dk_d02_259 15 rfl
theorem dX11_of_33 : decode cX11_of 33 = .ok (.aload_n 0, 1) := dk_get dk_d02_259 16 rfl
theorem dX11_of_34 : decode cX11_of 34 = .ok (.getfield 81, 3) := dk_get dk_d02_259 17 rfl
theorem dX11_of_37 : decode cX11_of 37 = .ok (.iload_n 1, 1) := dk_get dk_d02_259 18 rfl
theorem dX11_of_38 : decode cX11_of 38 = .ok (.invokevirtual 169, 3) := dk_get dk_d02_259 19 rfl
theorem dX11_of_41 : decode cX11_of 41 = .ok (.ireturn, 1) := dk_get dk_d02_259 20 rfl
theorem dX11_of_42 : decode cX11_of 42 = .ok (.iload_n 2, 1) := dk_get dk_d02_259 21 rfl
theorem dX11_of_43 : decode cX11_of 43 = .ok (.bipush 7, 2) := dk_get dk_d02_259 22 rfl
theorem dX11_of_45 : decode cX11_of 45 = .ok (.if_icmp .ne 14, 3) := dk_get dk_d02_259 23 rfl
theorem dX11_of_48 : decode cX11_of 48 = .ok (.aload_n 0, 1) := dk_get dk_d02_259 24 rfl
theorem dk_d02_260 : dkc cX11_of [(49, .getfield 12, 3), (52, .iload_n 1, 1), (53, .invokevirtual 173, 3), (56, .goto 15, 3), (59, .aload_n 0, 1), (60, .getfield 12, 3), (63, .getfield 67, 3), (66, .iload_n 1, 1), (67, .iload_n 2, 1), (68, .invokevirtual 134, 3), (71, .ireturn, 1)] = true := by decide +kernel
theorem dX11_of_49 : decode cX11_of 49 = .ok (.getfield 12, 3) := dk_get dk_d02_260 0 rfl
theorem dX11_of_52 : decode cX11_of 52 = .ok (.iload_n 1, 1) := dk_get dk_d02_260 1 rfl
theorem dX11_of_53 : decode cX11_of 53 = .ok (.invokevirtual 173, 3) := dk_get dk_d02_260 2 rfl
theorem dX11_of_56 : decode cX11_of 56 = .ok (.goto 15, 3) := dk_get dk_d02_260 3 rfl
theorem dX11_of_59 : decode cX11_of 59 = .ok (.aload_n 0, 1) := dk_get dk_d02_260 4 rfl
theorem dX11_of_60 : decode cX11_of 60 = .ok (.getfield 12, 3) := dk_get dk_d02_260 5 rfl
theorem dX11_of_63 : decode cX11_of 63 = .ok (.getfield 67, 3) := dk_get dk_d02_260 6 rfl
theorem dX11_of_66 : decode cX11_of 66 = .ok (.iload_n 1, 1) := dk_get dk_d02_260 7 rfl
theorem dX11_of_67 : decode cX11_of 67 = .ok (.iload_n 2, 1) := dk_get dk_d02_260 8 rfl
theorem dX11_of_68 : decode cX11_of 68 = .ok (.invokevirtual 134, 3) := dk_get dk_d02_260 9 rfl
theorem dX11_of_71 : decode cX11_of 71 = .ok (.ireturn, 1) := dk_get dk_d02_260 10 rfl
theorem dk_d02_261 : dkc cX11_cell [(0, .iload_n 1, 1), (1, .iload_n 2, 1), (2, .invokestatic 124, 3), (5, .istore 4, 2), (7, .iload 4, 2), (9, .iconst (-1), 1), (10, .if_icmp .eq 12, 3), (13, .iload_n 3, 1), (14, .ifCond .lt 8, 3), (17, .iload_n 3, 1), (18, .iconst 4, 1), (19, .if_icmp .le 6, 3), (22, .bipush (-2), 2), (24, .ireturn, 1), (25, .aload_n 0, 1), (26, .getfield 12, 3), (29, .getfield 67, 3), (32, .iload 4, 2), (34, .invokevirtual 127, 3), (37, .ifCond .ne 7, 3), (40, .iconst 1, 1), (41, .goto 4, 3), (44, .iconst 0, 1), (45, .istore 5, 2), (47, .iload_n 3, 1)] = true := by decide +kernel
theorem dX11_cell_0 : decode cX11_cell 0 = .ok (.iload_n 1, 1) := dk_get dk_d02_261 0 rfl
theorem dX11_cell_1 : decode cX11_cell 1 = .ok (.iload_n 2, 1) := dk_get dk_d02_261 1 rfl
theorem dX11_cell_2 : decode cX11_cell 2 = .ok (.invokestatic 124, 3) := dk_get dk_d02_261 2 rfl
theorem dX11_cell_5 : decode cX11_cell 5 = .ok (.istore 4, 2) := dk_get dk_d02_261 3 rfl
theorem dX11_cell_7 : decode cX11_cell 7 = .ok (.iload 4, 2) := dk_get dk_d02_261 4 rfl
theorem dX11_cell_9 : decode cX11_cell 9 = .ok (.iconst (-1), 1) := dk_get dk_d02_261 5 rfl
theorem dX11_cell_10 : decode cX11_cell 10 = .ok (.if_icmp .eq 12, 3) := dk_get dk_d02_261 6 rfl
theorem dX11_cell_13 : decode cX11_cell 13 = .ok (.iload_n 3, 1) := dk_get dk_d02_261 7 rfl
theorem dX11_cell_14 : decode cX11_cell 14 = .ok (.ifCond .lt 8, 3) := dk_get dk_d02_261 8 rfl
theorem dX11_cell_17 : decode cX11_cell 17 = .ok (.iload_n 3, 1) := dk_get dk_d02_261 9 rfl
theorem dX11_cell_18 : decode cX11_cell 18 = .ok (.iconst 4, 1) := dk_get dk_d02_261 10 rfl
theorem dX11_cell_19 : decode cX11_cell 19 = .ok (.if_icmp .le 6, 3) := dk_get dk_d02_261 11 rfl
theorem dX11_cell_22 : decode cX11_cell 22 = .ok (.bipush (-2), 2) := dk_get dk_d02_261 12 rfl
theorem dX11_cell_24 : decode cX11_cell 24 = .ok (.ireturn, 1) := dk_get dk_d02_261 13 rfl
theorem dX11_cell_25 : decode cX11_cell 25 = .ok (.aload_n 0, 1) := dk_get dk_d02_261 14 rfl
theorem dX11_cell_26 : decode cX11_cell 26 = .ok (.getfield 12, 3) := dk_get dk_d02_261 15 rfl
theorem dX11_cell_29 : decode cX11_cell 29 = .ok (.getfield 67, 3) := dk_get dk_d02_261 16 rfl
theorem dX11_cell_32 : decode cX11_cell 32 = .ok (.iload 4, 2) := dk_get dk_d02_261 17 rfl
theorem dX11_cell_34 : decode cX11_cell 34 = .ok (.invokevirtual 127, 3) := dk_get dk_d02_261 18 rfl
theorem dX11_cell_37 : decode cX11_cell 37 = .ok (.ifCond .ne 7, 3) := dk_get dk_d02_261 19 rfl
theorem dX11_cell_40 : decode cX11_cell 40 = .ok (.iconst 1, 1) := dk_get dk_d02_261 20 rfl
theorem dX11_cell_41 : decode cX11_cell 41 = .ok (.goto 4, 3) := dk_get dk_d02_261 21 rfl
theorem dX11_cell_44 : decode cX11_cell 44 = .ok (.iconst 0, 1) := dk_get dk_d02_261 22 rfl
theorem dX11_cell_45 : decode cX11_cell 45 = .ok (.istore 5, 2) := dk_get dk_d02_261 23 rfl
theorem dX11_cell_47 : decode cX11_cell 47 = .ok (.iload_n 3, 1) := dk_get dk_d02_261 24 rfl
theorem dk_d02_262 : dkc cX11_cell [(48, .tableswitch 90 0 3 #[32, 45, 58, 71], 32), (80, .aload_n 0, 1), (81, .getfield 12, 3), (84, .getfield 67, 3), (87, .iload 4, 2), (89, .invokevirtual 176, 3), (92, .ireturn, 1), (93, .aload_n 0, 1), (94, .getfield 12, 3), (97, .getfield 67, 3), (100, .iload 4, 2), (102, .invokevirtual 179, 3), (105, .ireturn, 1), (106, .aload_n 0, 1), (107, .getfield 12, 3), (110, .getfield 67, 3), (113, .iload 4, 2), (115, .invokevirtual 182, 3), (118, .ireturn, 1), (119, .iload 5, 2), (121, .ifCond .eq 7, 3), (124, .iconst (-1), 1), (125, .goto 12, 3), (128, .aload_n 0, 1), (129, .getfield 81, 3)] = true := by decide +kernel
theorem dX11_cell_48 : decode cX11_cell 48 = .ok (.tableswitch 90 0 3 #[32, 45, 58, 71], 32) := dk_get dk_d02_262 0 rfl
theorem dX11_cell_80 : decode cX11_cell 80 = .ok (.aload_n 0, 1) := dk_get dk_d02_262 1 rfl
theorem dX11_cell_81 : decode cX11_cell 81 = .ok (.getfield 12, 3) := dk_get dk_d02_262 2 rfl
theorem dX11_cell_84 : decode cX11_cell 84 = .ok (.getfield 67, 3) := dk_get dk_d02_262 3 rfl
theorem dX11_cell_87 : decode cX11_cell 87 = .ok (.iload 4, 2) := dk_get dk_d02_262 4 rfl
theorem dX11_cell_89 : decode cX11_cell 89 = .ok (.invokevirtual 176, 3) := dk_get dk_d02_262 5 rfl
theorem dX11_cell_92 : decode cX11_cell 92 = .ok (.ireturn, 1) := dk_get dk_d02_262 6 rfl
theorem dX11_cell_93 : decode cX11_cell 93 = .ok (.aload_n 0, 1) := dk_get dk_d02_262 7 rfl
theorem dX11_cell_94 : decode cX11_cell 94 = .ok (.getfield 12, 3) := dk_get dk_d02_262 8 rfl
theorem dX11_cell_97 : decode cX11_cell 97 = .ok (.getfield 67, 3) := dk_get dk_d02_262 9 rfl
theorem dX11_cell_100 : decode cX11_cell 100 = .ok (.iload 4, 2) := dk_get dk_d02_262 10 rfl
theorem dX11_cell_102 : decode cX11_cell 102 = .ok (.invokevirtual 179, 3) := dk_get dk_d02_262 11 rfl
theorem dX11_cell_105 : decode cX11_cell 105 = .ok (.ireturn, 1) := dk_get dk_d02_262 12 rfl
theorem dX11_cell_106 : decode cX11_cell 106 = .ok (.aload_n 0, 1) := dk_get dk_d02_262 13 rfl
theorem dX11_cell_107 : decode cX11_cell 107 = .ok (.getfield 12, 3) := dk_get dk_d02_262 14 rfl
theorem dX11_cell_110 : decode cX11_cell 110 = .ok (.getfield 67, 3) := dk_get dk_d02_262 15 rfl
theorem dX11_cell_113 : decode cX11_cell 113 = .ok (.iload 4, 2) := dk_get dk_d02_262 16 rfl
theorem dX11_cell_115 : decode cX11_cell 115 = .ok (.invokevirtual 182, 3) := dk_get dk_d02_262 17 rfl
theorem dX11_cell_118 : decode cX11_cell 118 = .ok (.ireturn, 1) := dk_get dk_d02_262 18 rfl
theorem dX11_cell_119 : decode cX11_cell 119 = .ok (.iload 5, 2) := dk_get dk_d02_262 19 rfl
theorem dX11_cell_121 : decode cX11_cell 121 = .ok (.ifCond .eq 7, 3) := dk_get dk_d02_262 20 rfl
theorem dX11_cell_124 : decode cX11_cell 124 = .ok (.iconst (-1), 1) := dk_get dk_d02_262 21 rfl
theorem dX11_cell_125 : decode cX11_cell 125 = .ok (.goto 12, 3) := dk_get dk_d02_262 22 rfl
theorem dX11_cell_128 : decode cX11_cell 128 = .ok (.aload_n 0, 1) := dk_get dk_d02_262 23 rfl
theorem dX11_cell_129 : decode cX11_cell 129 = .ok (.getfield 81, 3) := dk_get dk_d02_262 24 rfl
theorem dk_d02_263 : dkc cX11_cell [(132, .iload 4, 2), (134, .invokevirtual 185, 3), (137, .ireturn, 1), (138, .iload 5, 2), (140, .ifCond .eq 7, 3), (143, .iconst (-1), 1), (144, .goto 12, 3), (147, .aload_n 0, 1), (148, .getfield 81, 3), (151, .iload 4, 2), (153, .invokevirtual 188, 3), (156, .ireturn, 1)] = true := by decide +kernel
theorem dX11_cell_132 : decode cX11_cell 132 = .ok (.iload 4, 2) := dk_get dk_d02_263 0 rfl
theorem dX11_cell_134 : decode cX11_cell 134 = .ok (.invokevirtual 185, 3) := dk_get dk_d02_263 1 rfl
theorem dX11_cell_137 : decode cX11_cell 137 = .ok (.ireturn, 1) := dk_get dk_d02_263 2 rfl
theorem dX11_cell_138 : decode cX11_cell 138 = .ok (.iload 5, 2) := dk_get dk_d02_263 3 rfl
theorem dX11_cell_140 : decode cX11_cell 140 = .ok (.ifCond .eq 7, 3) := dk_get dk_d02_263 4 rfl
theorem dX11_cell_143 : decode cX11_cell 143 = .ok (.iconst (-1), 1) := dk_get dk_d02_263 5 rfl
theorem dX11_cell_144 : decode cX11_cell 144 = .ok (.goto 12, 3) := dk_get dk_d02_263 6 rfl
theorem dX11_cell_147 : decode cX11_cell 147 = .ok (.aload_n 0, 1) := dk_get dk_d02_263 7 rfl
theorem dX11_cell_148 : decode cX11_cell 148 = .ok (.getfield 81, 3) := dk_get dk_d02_263 8 rfl
theorem dX11_cell_151 : decode cX11_cell 151 = .ok (.iload 4, 2) := dk_get dk_d02_263 9 rfl
theorem dX11_cell_153 : decode cX11_cell 153 = .ok (.invokevirtual 188, 3) := dk_get dk_d02_263 10 rfl
theorem dX11_cell_156 : decode cX11_cell 156 = .ok (.ireturn, 1) := dk_get dk_d02_263 11 rfl
theorem dk_d02_264 : dkc cX11_book [(0, .iload_n 1, 1), (1, .ifCond .lt 26, 3), (4, .iload_n 1, 1), (5, .aload_n 0, 1), (6, .getfield 12, 3), (9, .getfield 67, 3), (12, .getfield 191, 3), (15, .if_icmp .ge 12, 3), (18, .iload_n 2, 1), (19, .ifCond .lt 8, 3), (22, .iload_n 2, 1), (23, .iconst 5, 1), (24, .if_icmp .lt 7, 3), (27, .sipush (-10000), 3), (30, .ireturn, 1), (31, .aload_n 0, 1), (32, .getfield 12, 3), (35, .getfield 74, 3), (38, .iload_n 1, 1), (39, .iload_n 2, 1), (40, .invokevirtual 192, 3), (43, .ireturn, 1)] = true := by decide +kernel
theorem dX11_book_0 : decode cX11_book 0 = .ok (.iload_n 1, 1) := dk_get dk_d02_264 0 rfl
theorem dX11_book_1 : decode cX11_book 1 = .ok (.ifCond .lt 26, 3) := dk_get dk_d02_264 1 rfl
theorem dX11_book_4 : decode cX11_book 4 = .ok (.iload_n 1, 1) := dk_get dk_d02_264 2 rfl
theorem dX11_book_5 : decode cX11_book 5 = .ok (.aload_n 0, 1) := dk_get dk_d02_264 3 rfl
theorem dX11_book_6 : decode cX11_book 6 = .ok (.getfield 12, 3) := dk_get dk_d02_264 4 rfl
theorem dX11_book_9 : decode cX11_book 9 = .ok (.getfield 67, 3) := dk_get dk_d02_264 5 rfl
theorem dX11_book_12 : decode cX11_book 12 = .ok (.getfield 191, 3) := dk_get dk_d02_264 6 rfl
theorem dX11_book_15 : decode cX11_book 15 = .ok (.if_icmp .ge 12, 3) := dk_get dk_d02_264 7 rfl
theorem dX11_book_18 : decode cX11_book 18 = .ok (.iload_n 2, 1) := dk_get dk_d02_264 8 rfl
theorem dX11_book_19 : decode cX11_book 19 = .ok (.ifCond .lt 8, 3) := dk_get dk_d02_264 9 rfl
theorem dX11_book_22 : decode cX11_book 22 = .ok (.iload_n 2, 1) := dk_get dk_d02_264 10 rfl
theorem dX11_book_23 : decode cX11_book 23 = .ok (.iconst 5, 1) := dk_get dk_d02_264 11 rfl
theorem dX11_book_24 : decode cX11_book 24 = .ok (.if_icmp .lt 7, 3) := dk_get dk_d02_264 12 rfl
theorem dX11_book_27 : decode cX11_book 27 = .ok (.sipush (-10000), 3) := dk_get dk_d02_264 13 rfl
theorem dX11_book_30 : decode cX11_book 30 = .ok (.ireturn, 1) := dk_get dk_d02_264 14 rfl
theorem dX11_book_31 : decode cX11_book 31 = .ok (.aload_n 0, 1) := dk_get dk_d02_264 15 rfl
theorem dX11_book_32 : decode cX11_book 32 = .ok (.getfield 12, 3) := dk_get dk_d02_264 16 rfl
theorem dX11_book_35 : decode cX11_book 35 = .ok (.getfield 74, 3) := dk_get dk_d02_264 17 rfl
theorem dX11_book_38 : decode cX11_book 38 = .ok (.iload_n 1, 1) := dk_get dk_d02_264 18 rfl
theorem dX11_book_39 : decode cX11_book 39 = .ok (.iload_n 2, 1) := dk_get dk_d02_264 19 rfl
theorem dX11_book_40 : decode cX11_book 40 = .ok (.invokevirtual 192, 3) := dk_get dk_d02_264 20 rfl
theorem dX11_book_43 : decode cX11_book 43 = .ok (.ireturn, 1) := dk_get dk_d02_264 21 rfl
theorem dk_d02_265 : dkc cX11_goes [(0, .iload_n 1, 1), (1, .iconst 1, 1), (2, .if_icmp .lt 18, 3), (5, .iload_n 1, 1), (6, .bipush 60, 2), (8, .if_icmp .gt 12, 3), (11, .iload_n 2, 1), (12, .ifCond .lt 8, 3), (15, .iload_n 2, 1), (16, .iconst 3, 1), (17, .if_icmp .le 6, 3), (20, .ldc 197, 2), (22, .ireturn, 1), (23, .aload_n 0, 1), (24, .getfield 40, 3), (27, .aload_n 0, 1), (28, .getfield 12, 3), (31, .getfield 67, 3), (34, .invokevirtual 198, 3), (37, .iconst 0, 1), (38, .istore_n 3, 1), (39, .iload_n 3, 1), (40, .iload_n 1, 1), (41, .if_icmp .ge 17, 3), (44, .aload_n 0, 1)] = true := by decide +kernel
theorem dX11_goes_0 : decode cX11_goes 0 = .ok (.iload_n 1, 1) := dk_get dk_d02_265 0 rfl
theorem dX11_goes_1 : decode cX11_goes 1 = .ok (.iconst 1, 1) := dk_get dk_d02_265 1 rfl
theorem dX11_goes_2 : decode cX11_goes 2 = .ok (.if_icmp .lt 18, 3) := dk_get dk_d02_265 2 rfl
theorem dX11_goes_5 : decode cX11_goes 5 = .ok (.iload_n 1, 1) := dk_get dk_d02_265 3 rfl
theorem dX11_goes_6 : decode cX11_goes 6 = .ok (.bipush 60, 2) := dk_get dk_d02_265 4 rfl
theorem dX11_goes_8 : decode cX11_goes 8 = .ok (.if_icmp .gt 12, 3) := dk_get dk_d02_265 5 rfl
theorem dX11_goes_11 : decode cX11_goes 11 = .ok (.iload_n 2, 1) := dk_get dk_d02_265 6 rfl
theorem dX11_goes_12 : decode cX11_goes 12 = .ok (.ifCond .lt 8, 3) := dk_get dk_d02_265 7 rfl
theorem dX11_goes_15 : decode cX11_goes 15 = .ok (.iload_n 2, 1) := dk_get dk_d02_265 8 rfl
theorem dX11_goes_16 : decode cX11_goes 16 = .ok (.iconst 3, 1) := dk_get dk_d02_265 9 rfl
theorem dX11_goes_17 : decode cX11_goes 17 = .ok (.if_icmp .le 6, 3) := dk_get dk_d02_265 10 rfl
theorem dX11_goes_20 : decode cX11_goes 20 = .ok (.ldc 197, 2) := dk_get dk_d02_265 11 rfl
theorem dX11_goes_22 : decode cX11_goes 22 = .ok (.ireturn, 1) := dk_get dk_d02_265 12 rfl
theorem dX11_goes_23 : decode cX11_goes 23 = .ok (.aload_n 0, 1) := dk_get dk_d02_265 13 rfl
theorem dX11_goes_24 : decode cX11_goes 24 = .ok (.getfield 40, 3) := dk_get dk_d02_265 14 rfl
theorem dX11_goes_27 : decode cX11_goes 27 = .ok (.aload_n 0, 1) := dk_get dk_d02_265 15 rfl
theorem dX11_goes_28 : decode cX11_goes 28 = .ok (.getfield 12, 3) := dk_get dk_d02_265 16 rfl
theorem dX11_goes_31 : decode cX11_goes 31 = .ok (.getfield 67, 3) := dk_get dk_d02_265 17 rfl
theorem dX11_goes_34 : decode cX11_goes 34 = .ok (.invokevirtual 198, 3) := dk_get dk_d02_265 18 rfl
theorem dX11_goes_37 : decode cX11_goes 37 = .ok (.iconst 0, 1) := dk_get dk_d02_265 19 rfl
theorem dX11_goes_38 : decode cX11_goes 38 = .ok (.istore_n 3, 1) := dk_get dk_d02_265 20 rfl
theorem dX11_goes_39 : decode cX11_goes 39 = .ok (.iload_n 3, 1) := dk_get dk_d02_265 21 rfl
theorem dX11_goes_40 : decode cX11_goes 40 = .ok (.iload_n 1, 1) := dk_get dk_d02_265 22 rfl
theorem dX11_goes_41 : decode cX11_goes 41 = .ok (.if_icmp .ge 17, 3) := dk_get dk_d02_265 23 rfl
theorem dX11_goes_44 : decode cX11_goes 44 = .ok (.aload_n 0, 1) := dk_get dk_d02_265 24 rfl
theorem dk_d02_266 : dkc cX11_goes [(45, .getfield 85, 3), (48, .invokevirtual 143, 3), (51, .pop, 1), (52, .iinc 3 1, 3), (55, .goto (-16), 3), (58, .iload_n 2, 1), (59, .tableswitch 49 0 2 #[25, 33, 41], 25), (84, .aload_n 0, 1), (85, .getfield 40, 3), (88, .getfield 201, 3), (91, .ireturn, 1), (92, .aload_n 0, 1), (93, .getfield 40, 3), (96, .invokevirtual 204, 3), (99, .ireturn, 1), (100, .aload_n 0, 1), (101, .getfield 85, 3), (104, .invokevirtual 207, 3), (107, .ireturn, 1), (108, .aload_n 0, 1), (109, .getfield 40, 3), (112, .invokevirtual 210, 3), (115, .ireturn, 1)] = true := by decide +kernel
theorem dX11_goes_45 : decode cX11_goes 45 = .ok (.getfield 85, 3) := dk_get dk_d02_266 0 rfl
theorem dX11_goes_48 : decode cX11_goes 48 = .ok (.invokevirtual 143, 3) := dk_get dk_d02_266 1 rfl
theorem dX11_goes_51 : decode cX11_goes 51 = .ok (.pop, 1) := dk_get dk_d02_266 2 rfl
theorem dX11_goes_52 : decode cX11_goes 52 = .ok (.iinc 3 1, 3) := dk_get dk_d02_266 3 rfl
theorem dX11_goes_55 : decode cX11_goes 55 = .ok (.goto (-16), 3) := dk_get dk_d02_266 4 rfl
theorem dX11_goes_58 : decode cX11_goes 58 = .ok (.iload_n 2, 1) := dk_get dk_d02_266 5 rfl
theorem dX11_goes_59 : decode cX11_goes 59 = .ok (.tableswitch 49 0 2 #[25, 33, 41], 25) := dk_get dk_d02_266 6 rfl
theorem dX11_goes_84 : decode cX11_goes 84 = .ok (.aload_n 0, 1) := dk_get dk_d02_266 7 rfl
theorem dX11_goes_85 : decode cX11_goes 85 = .ok (.getfield 40, 3) := dk_get dk_d02_266 8 rfl
theorem dX11_goes_88 : decode cX11_goes 88 = .ok (.getfield 201, 3) := dk_get dk_d02_266 9 rfl
theorem dX11_goes_91 : decode cX11_goes 91 = .ok (.ireturn, 1) := dk_get dk_d02_266 10 rfl
theorem dX11_goes_92 : decode cX11_goes 92 = .ok (.aload_n 0, 1) := dk_get dk_d02_266 11 rfl
theorem dX11_goes_93 : decode cX11_goes 93 = .ok (.getfield 40, 3) := dk_get dk_d02_266 12 rfl
theorem dX11_goes_96 : decode cX11_goes 96 = .ok (.invokevirtual 204, 3) := dk_get dk_d02_266 13 rfl
theorem dX11_goes_99 : decode cX11_goes 99 = .ok (.ireturn, 1) := dk_get dk_d02_266 14 rfl
theorem dX11_goes_100 : decode cX11_goes 100 = .ok (.aload_n 0, 1) := dk_get dk_d02_266 15 rfl
theorem dX11_goes_101 : decode cX11_goes 101 = .ok (.getfield 85, 3) := dk_get dk_d02_266 16 rfl
theorem dX11_goes_104 : decode cX11_goes 104 = .ok (.invokevirtual 207, 3) := dk_get dk_d02_266 17 rfl
theorem dX11_goes_107 : decode cX11_goes 107 = .ok (.ireturn, 1) := dk_get dk_d02_266 18 rfl
theorem dX11_goes_108 : decode cX11_goes 108 = .ok (.aload_n 0, 1) := dk_get dk_d02_266 19 rfl
theorem dX11_goes_109 : decode cX11_goes 109 = .ok (.getfield 40, 3) := dk_get dk_d02_266 20 rfl
theorem dX11_goes_112 : decode cX11_goes 112 = .ok (.invokevirtual 210, 3) := dk_get dk_d02_266 21 rfl
theorem dX11_goes_115 : decode cX11_goes 115 = .ok (.ireturn, 1) := dk_get dk_d02_266 22 rfl
theorem dk_d02_267 : dkc cX11_wax [(0, .iload_n 1, 1), (1, .tableswitch 173 0 9 #[55, 63, 71, 86, 101, 116, 139, 154, 154, 154], 55), (56, .aload_n 0, 1), (57, .getfield 81, 3), (60, .invokevirtual 207, 3), (63, .ireturn, 1), (64, .aload_n 0, 1), (65, .getfield 81, 3), (68, .invokevirtual 213, 3), (71, .ireturn, 1), (72, .aload_n 0, 1), (73, .getfield 47, 3), (76, .aload_n 0, 1), (77, .getfield 12, 3), (80, .getfield 67, 3), (83, .invokevirtual 216, 3), (86, .ireturn, 1), (87, .aload_n 0, 1), (88, .getfield 47, 3), (91, .aload_n 0, 1), (92, .getfield 12, 3), (95, .getfield 67, 3), (98, .invokevirtual 220, 3), (101, .ireturn, 1), (102, .aload_n 0, 1)] = true := by decide +kernel
theorem dX11_wax_0 : decode cX11_wax 0 = .ok (.iload_n 1, 1) := dk_get dk_d02_267 0 rfl
theorem dX11_wax_1 : decode cX11_wax 1 = .ok (.tableswitch 173 0 9 #[55, 63, 71, 86, 101, 116, 139, 154, 154, 154], 55) := dk_get dk_d02_267 1 rfl
theorem dX11_wax_56 : decode cX11_wax 56 = .ok (.aload_n 0, 1) := dk_get dk_d02_267 2 rfl
theorem dX11_wax_57 : decode cX11_wax 57 = .ok (.getfield 81, 3) := dk_get dk_d02_267 3 rfl
theorem dX11_wax_60 : decode cX11_wax 60 = .ok (.invokevirtual 207, 3) := dk_get dk_d02_267 4 rfl
theorem dX11_wax_63 : decode cX11_wax 63 = .ok (.ireturn, 1) := dk_get dk_d02_267 5 rfl
theorem dX11_wax_64 : decode cX11_wax 64 = .ok (.aload_n 0, 1) := dk_get dk_d02_267 6 rfl
theorem dX11_wax_65 : decode cX11_wax 65 = .ok (.getfield 81, 3) := dk_get dk_d02_267 7 rfl
theorem dX11_wax_68 : decode cX11_wax 68 = .ok (.invokevirtual 213, 3) := dk_get dk_d02_267 8 rfl
theorem dX11_wax_71 : decode cX11_wax 71 = .ok (.ireturn, 1) := dk_get dk_d02_267 9 rfl
theorem dX11_wax_72 : decode cX11_wax 72 = .ok (.aload_n 0, 1) := dk_get dk_d02_267 10 rfl
theorem dX11_wax_73 : decode cX11_wax 73 = .ok (.getfield 47, 3) := dk_get dk_d02_267 11 rfl
theorem dX11_wax_76 : decode cX11_wax 76 = .ok (.aload_n 0, 1) := dk_get dk_d02_267 12 rfl
theorem dX11_wax_77 : decode cX11_wax 77 = .ok (.getfield 12, 3) := dk_get dk_d02_267 13 rfl
theorem dX11_wax_80 : decode cX11_wax 80 = .ok (.getfield 67, 3) := dk_get dk_d02_267 14 rfl
theorem dX11_wax_83 : decode cX11_wax 83 = .ok (.invokevirtual 216, 3) := dk_get dk_d02_267 15 rfl
theorem dX11_wax_86 : decode cX11_wax 86 = .ok (.ireturn, 1) := dk_get dk_d02_267 16 rfl
theorem dX11_wax_87 : decode cX11_wax 87 = .ok (.aload_n 0, 1) := dk_get dk_d02_267 17 rfl
theorem dX11_wax_88 : decode cX11_wax 88 = .ok (.getfield 47, 3) := dk_get dk_d02_267 18 rfl
theorem dX11_wax_91 : decode cX11_wax 91 = .ok (.aload_n 0, 1) := dk_get dk_d02_267 19 rfl
theorem dX11_wax_92 : decode cX11_wax 92 = .ok (.getfield 12, 3) := dk_get dk_d02_267 20 rfl
theorem dX11_wax_95 : decode cX11_wax 95 = .ok (.getfield 67, 3) := dk_get dk_d02_267 21 rfl
theorem dX11_wax_98 : decode cX11_wax 98 = .ok (.invokevirtual 220, 3) := dk_get dk_d02_267 22 rfl
theorem dX11_wax_101 : decode cX11_wax 101 = .ok (.ireturn, 1) := dk_get dk_d02_267 23 rfl
theorem dX11_wax_102 : decode cX11_wax 102 = .ok (.aload_n 0, 1) := dk_get dk_d02_267 24 rfl
theorem dk_d02_268 : dkc cX11_wax [(103, .getfield 47, 3), (106, .aload_n 0, 1), (107, .getfield 12, 3), (110, .getfield 67, 3), (113, .invokevirtual 223, 3), (116, .ireturn, 1), (117, .aload_n 0, 1), (118, .getfield 47, 3), (121, .aload_n 0, 1), (122, .getfield 12, 3), (125, .getfield 67, 3), (128, .invokevirtual 226, 3), (131, .ifCond .ne 7, 3), (134, .iconst 1, 1), (135, .goto 4, 3), (138, .iconst 0, 1), (139, .ireturn, 1), (140, .aload_n 0, 1), (141, .getfield 47, 3), (144, .aload_n 0, 1), (145, .getfield 12, 3), (148, .getfield 67, 3), (151, .invokevirtual 226, 3), (154, .ireturn, 1), (155, .aload_n 0, 1)] = true := by decide +kernel
theorem dX11_wax_103 : decode cX11_wax 103 = .ok (.getfield 47, 3) := dk_get dk_d02_268 0 rfl
theorem dX11_wax_106 : decode cX11_wax 106 = .ok (.aload_n 0, 1) := dk_get dk_d02_268 1 rfl
theorem dX11_wax_107 : decode cX11_wax 107 = .ok (.getfield 12, 3) := dk_get dk_d02_268 2 rfl
theorem dX11_wax_110 : decode cX11_wax 110 = .ok (.getfield 67, 3) := dk_get dk_d02_268 3 rfl
theorem dX11_wax_113 : decode cX11_wax 113 = .ok (.invokevirtual 223, 3) := dk_get dk_d02_268 4 rfl
theorem dX11_wax_116 : decode cX11_wax 116 = .ok (.ireturn, 1) := dk_get dk_d02_268 5 rfl
theorem dX11_wax_117 : decode cX11_wax 117 = .ok (.aload_n 0, 1) := dk_get dk_d02_268 6 rfl
theorem dX11_wax_118 : decode cX11_wax 118 = .ok (.getfield 47, 3) := dk_get dk_d02_268 7 rfl
theorem dX11_wax_121 : decode cX11_wax 121 = .ok (.aload_n 0, 1) := dk_get dk_d02_268 8 rfl
theorem dX11_wax_122 : decode cX11_wax 122 = .ok (.getfield 12, 3) := dk_get dk_d02_268 9 rfl
theorem dX11_wax_125 : decode cX11_wax 125 = .ok (.getfield 67, 3) := dk_get dk_d02_268 10 rfl
theorem dX11_wax_128 : decode cX11_wax 128 = .ok (.invokevirtual 226, 3) := dk_get dk_d02_268 11 rfl
theorem dX11_wax_131 : decode cX11_wax 131 = .ok (.ifCond .ne 7, 3) := dk_get dk_d02_268 12 rfl
theorem dX11_wax_134 : decode cX11_wax 134 = .ok (.iconst 1, 1) := dk_get dk_d02_268 13 rfl
theorem dX11_wax_135 : decode cX11_wax 135 = .ok (.goto 4, 3) := dk_get dk_d02_268 14 rfl
theorem dX11_wax_138 : decode cX11_wax 138 = .ok (.iconst 0, 1) := dk_get dk_d02_268 15 rfl
theorem dX11_wax_139 : decode cX11_wax 139 = .ok (.ireturn, 1) := dk_get dk_d02_268 16 rfl
theorem dX11_wax_140 : decode cX11_wax 140 = .ok (.aload_n 0, 1) := dk_get dk_d02_268 17 rfl
theorem dX11_wax_141 : decode cX11_wax 141 = .ok (.getfield 47, 3) := dk_get dk_d02_268 18 rfl
theorem dX11_wax_144 : decode cX11_wax 144 = .ok (.aload_n 0, 1) := dk_get dk_d02_268 19 rfl
theorem dX11_wax_145 : decode cX11_wax 145 = .ok (.getfield 12, 3) := dk_get dk_d02_268 20 rfl
theorem dX11_wax_148 : decode cX11_wax 148 = .ok (.getfield 67, 3) := dk_get dk_d02_268 21 rfl
theorem dX11_wax_151 : decode cX11_wax 151 = .ok (.invokevirtual 226, 3) := dk_get dk_d02_268 22 rfl
theorem dX11_wax_154 : decode cX11_wax 154 = .ok (.ireturn, 1) := dk_get dk_d02_268 23 rfl
theorem dX11_wax_155 : decode cX11_wax 155 = .ok (.aload_n 0, 1) := dk_get dk_d02_268 24 rfl
theorem dk_d02_269 : dkc cX11_wax [(156, .getfield 47, 3), (159, .aload_n 0, 1), (160, .getfield 12, 3), (163, .getfield 67, 3), (166, .iload_n 1, 1), (167, .bipush 7, 2), (169, .isub, 1), (170, .invokevirtual 229, 3), (173, .ireturn, 1), (174, .ldc 197, 2), (176, .ireturn, 1)] = true := by decide +kernel
theorem dX11_wax_156 : decode cX11_wax 156 = .ok (.getfield 47, 3) := dk_get dk_d02_269 0 rfl
theorem dX11_wax_159 : decode cX11_wax 159 = .ok (.aload_n 0, 1) := dk_get dk_d02_269 1 rfl
theorem dX11_wax_160 : decode cX11_wax 160 = .ok (.getfield 12, 3) := dk_get dk_d02_269 2 rfl
theorem dX11_wax_163 : decode cX11_wax 163 = .ok (.getfield 67, 3) := dk_get dk_d02_269 3 rfl
theorem dX11_wax_166 : decode cX11_wax 166 = .ok (.iload_n 1, 1) := dk_get dk_d02_269 4 rfl
theorem dX11_wax_167 : decode cX11_wax 167 = .ok (.bipush 7, 2) := dk_get dk_d02_269 5 rfl
theorem dX11_wax_169 : decode cX11_wax 169 = .ok (.isub, 1) := dk_get dk_d02_269 6 rfl
theorem dX11_wax_170 : decode cX11_wax 170 = .ok (.invokevirtual 229, 3) := dk_get dk_d02_269 7 rfl
theorem dX11_wax_173 : decode cX11_wax 173 = .ok (.ireturn, 1) := dk_get dk_d02_269 8 rfl
theorem dX11_wax_174 : decode cX11_wax 174 = .ok (.ldc 197, 2) := dk_get dk_d02_269 9 rfl
theorem dX11_wax_176 : decode cX11_wax 176 = .ok (.ireturn, 1) := dk_get dk_d02_269 10 rfl
theorem dk_d02_270 : dkc cX11_whose [(0, .iload_n 1, 1), (1, .ifCond .lt 21, 3), (4, .iload_n 1, 1), (5, .sipush 255, 3), (8, .if_icmp .gt 14, 3), (11, .iload_n 2, 1), (12, .iconst (-1), 1), (13, .if_icmp .lt 9, 3), (16, .iload_n 2, 1), (17, .bipush 8, 2), (19, .if_icmp .le 5, 3), (22, .iconst (-1), 1), (23, .ireturn, 1), (24, .iload_n 2, 1), (25, .iconst (-1), 1), (26, .if_icmp .ne 17, 3), (29, .aload_n 0, 1), (30, .getfield 12, 3), (33, .getfield 67, 3), (36, .iload_n 1, 1), (37, .invokevirtual 233, 3), (40, .goto 15, 3), (43, .aload_n 0, 1), (44, .getfield 12, 3), (47, .getfield 67, 3)] = true := by decide +kernel
theorem dX11_whose_0 : decode cX11_whose 0 = .ok (.iload_n 1, 1) := dk_get dk_d02_270 0 rfl
theorem dX11_whose_1 : decode cX11_whose 1 = .ok (.ifCond .lt 21, 3) := dk_get dk_d02_270 1 rfl
theorem dX11_whose_4 : decode cX11_whose 4 = .ok (.iload_n 1, 1) := dk_get dk_d02_270 2 rfl
theorem dX11_whose_5 : decode cX11_whose 5 = .ok (.sipush 255, 3) := dk_get dk_d02_270 3 rfl
theorem dX11_whose_8 : decode cX11_whose 8 = .ok (.if_icmp .gt 14, 3) := dk_get dk_d02_270 4 rfl
theorem dX11_whose_11 : decode cX11_whose 11 = .ok (.iload_n 2, 1) := dk_get dk_d02_270 5 rfl
theorem dX11_whose_12 : decode cX11_whose 12 = .ok (.iconst (-1), 1) := dk_get dk_d02_270 6 rfl
theorem dX11_whose_13 : decode cX11_whose 13 = .ok (.if_icmp .lt 9, 3) := dk_get dk_d02_270 7 rfl
theorem dX11_whose_16 : decode cX11_whose 16 = .ok (.iload_n 2, 1) := dk_get dk_d02_270 8 rfl
theorem dX11_whose_17 : decode cX11_whose 17 = .ok (.bipush 8, 2) := dk_get dk_d02_270 9 rfl
theorem dX11_whose_19 : decode cX11_whose 19 = .ok (.if_icmp .le 5, 3) := dk_get dk_d02_270 10 rfl
theorem dX11_whose_22 : decode cX11_whose 22 = .ok (.iconst (-1), 1) := dk_get dk_d02_270 11 rfl
theorem dX11_whose_23 : decode cX11_whose 23 = .ok (.ireturn, 1) := dk_get dk_d02_270 12 rfl
theorem dX11_whose_24 : decode cX11_whose 24 = .ok (.iload_n 2, 1) := dk_get dk_d02_270 13 rfl
theorem dX11_whose_25 : decode cX11_whose 25 = .ok (.iconst (-1), 1) := dk_get dk_d02_270 14 rfl
theorem dX11_whose_26 : decode cX11_whose 26 = .ok (.if_icmp .ne 17, 3) := dk_get dk_d02_270 15 rfl
theorem dX11_whose_29 : decode cX11_whose 29 = .ok (.aload_n 0, 1) := dk_get dk_d02_270 16 rfl
theorem dX11_whose_30 : decode cX11_whose 30 = .ok (.getfield 12, 3) := dk_get dk_d02_270 17 rfl
theorem dX11_whose_33 : decode cX11_whose 33 = .ok (.getfield 67, 3) := dk_get dk_d02_270 18 rfl
theorem dX11_whose_36 : decode cX11_whose 36 = .ok (.iload_n 1, 1) := dk_get dk_d02_270 19 rfl
theorem dX11_whose_37 : decode cX11_whose 37 = .ok (.invokevirtual 233, 3) := dk_get dk_d02_270 20 rfl
theorem dX11_whose_40 : decode cX11_whose 40 = .ok (.goto 15, 3) := dk_get dk_d02_270 21 rfl
theorem dX11_whose_43 : decode cX11_whose 43 = .ok (.aload_n 0, 1) := dk_get dk_d02_270 22 rfl
theorem dX11_whose_44 : decode cX11_whose 44 = .ok (.getfield 12, 3) := dk_get dk_d02_270 23 rfl
theorem dX11_whose_47 : decode cX11_whose 47 = .ok (.getfield 67, 3) := dk_get dk_d02_270 24 rfl
theorem dk_d02_271 : dkc cX11_whose [(50, .iload_n 1, 1), (51, .iload_n 2, 1), (52, .invokevirtual 236, 3), (55, .ireturn, 1)] = true := by decide +kernel
theorem dX11_whose_50 : decode cX11_whose 50 = .ok (.iload_n 1, 1) := dk_get dk_d02_271 0 rfl
theorem dX11_whose_51 : decode cX11_whose 51 = .ok (.iload_n 2, 1) := dk_get dk_d02_271 1 rfl
theorem dX11_whose_52 : decode cX11_whose 52 = .ok (.invokevirtual 236, 3) := dk_get dk_d02_271 2 rfl
theorem dX11_whose_55 : decode cX11_whose 55 = .ok (.ireturn, 1) := dk_get dk_d02_271 3 rfl
theorem dk_d02_272 : dkc cX11_could [(0, .aload_n 0, 1), (1, .getfield 12, 3), (4, .getfield 67, 3), (7, .iload_n 1, 1), (8, .invokevirtual 109, 3), (11, .ifCond .eq 14, 3), (14, .aload_n 0, 1), (15, .getfield 12, 3), (18, .iload_n 1, 1), (19, .invokevirtual 239, 3), (22, .goto 4, 3), (25, .iconst (-1), 1), (26, .ireturn, 1)] = true := by decide +kernel
theorem dX11_could_0 : decode cX11_could 0 = .ok (.aload_n 0, 1) := dk_get dk_d02_272 0 rfl
theorem dX11_could_1 : decode cX11_could 1 = .ok (.getfield 12, 3) := dk_get dk_d02_272 1 rfl
theorem dX11_could_4 : decode cX11_could 4 = .ok (.getfield 67, 3) := dk_get dk_d02_272 2 rfl
theorem dX11_could_7 : decode cX11_could 7 = .ok (.iload_n 1, 1) := dk_get dk_d02_272 3 rfl
theorem dX11_could_8 : decode cX11_could 8 = .ok (.invokevirtual 109, 3) := dk_get dk_d02_272 4 rfl
theorem dX11_could_11 : decode cX11_could 11 = .ok (.ifCond .eq 14, 3) := dk_get dk_d02_272 5 rfl
theorem dX11_could_14 : decode cX11_could 14 = .ok (.aload_n 0, 1) := dk_get dk_d02_272 6 rfl
theorem dX11_could_15 : decode cX11_could 15 = .ok (.getfield 12, 3) := dk_get dk_d02_272 7 rfl
theorem dX11_could_18 : decode cX11_could 18 = .ok (.iload_n 1, 1) := dk_get dk_d02_272 8 rfl
theorem dX11_could_19 : decode cX11_could 19 = .ok (.invokevirtual 239, 3) := dk_get dk_d02_272 9 rfl
theorem dX11_could_22 : decode cX11_could 22 = .ok (.goto 4, 3) := dk_get dk_d02_272 10 rfl
theorem dX11_could_25 : decode cX11_could 25 = .ok (.iconst (-1), 1) := dk_get dk_d02_272 11 rfl
theorem dX11_could_26 : decode cX11_could 26 = .ok (.ireturn, 1) := dk_get dk_d02_272 12 rfl
theorem dk_d02_273 : dkc cX11_party [(0, .aload_n 0, 1), (1, .getfield 12, 3), (4, .iconst 0, 1), (5, .iload_n 1, 1), (6, .iconst (-1), 1), (7, .if_icmp .ne 7, 3), (10, .iconst 1, 1), (11, .goto 4, 3), (14, .iconst 0, 1), (15, .iload_n 1, 1), (16, .ifCond .lt 14, 3), (19, .iload_n 1, 1), (20, .sipush 999, 3), (23, .if_icmp .gt 7, 3), (26, .iconst 1, 1), (27, .goto 4, 3), (30, .iconst 0, 1), (31, .iload_n 1, 1), (32, .invokevirtual 242, 3), (35, .ireturn, 1)] = true := by decide +kernel
theorem dX11_party_0 : decode cX11_party 0 = .ok (.aload_n 0, 1) := dk_get dk_d02_273 0 rfl
theorem dX11_party_1 : decode cX11_party 1 = .ok (.getfield 12, 3) := dk_get dk_d02_273 1 rfl
theorem dX11_party_4 : decode cX11_party 4 = .ok (.iconst 0, 1) := dk_get dk_d02_273 2 rfl
theorem dX11_party_5 : decode cX11_party 5 = .ok (.iload_n 1, 1) := dk_get dk_d02_273 3 rfl
theorem dX11_party_6 : decode cX11_party 6 = .ok (.iconst (-1), 1) := dk_get dk_d02_273 4 rfl
theorem dX11_party_7 : decode cX11_party 7 = .ok (.if_icmp .ne 7, 3) := dk_get dk_d02_273 5 rfl
theorem dX11_party_10 : decode cX11_party 10 = .ok (.iconst 1, 1) := dk_get dk_d02_273 6 rfl
theorem dX11_party_11 : decode cX11_party 11 = .ok (.goto 4, 3) := dk_get dk_d02_273 7 rfl
theorem dX11_party_14 : decode cX11_party 14 = .ok (.iconst 0, 1) := dk_get dk_d02_273 8 rfl
theorem dX11_party_15 : decode cX11_party 15 = .ok (.iload_n 1, 1) := dk_get dk_d02_273 9 rfl
theorem dX11_party_16 : decode cX11_party 16 = .ok (.ifCond .lt 14, 3) := dk_get dk_d02_273 10 rfl
theorem dX11_party_19 : decode cX11_party 19 = .ok (.iload_n 1, 1) := dk_get dk_d02_273 11 rfl
theorem dX11_party_20 : decode cX11_party 20 = .ok (.sipush 999, 3) := dk_get dk_d02_273 12 rfl
theorem dX11_party_23 : decode cX11_party 23 = .ok (.if_icmp .gt 7, 3) := dk_get dk_d02_273 13 rfl
theorem dX11_party_26 : decode cX11_party 26 = .ok (.iconst 1, 1) := dk_get dk_d02_273 14 rfl
theorem dX11_party_27 : decode cX11_party 27 = .ok (.goto 4, 3) := dk_get dk_d02_273 15 rfl
theorem dX11_party_30 : decode cX11_party 30 = .ok (.iconst 0, 1) := dk_get dk_d02_273 16 rfl
theorem dX11_party_31 : decode cX11_party 31 = .ok (.iload_n 1, 1) := dk_get dk_d02_273 17 rfl
theorem dX11_party_32 : decode cX11_party 32 = .ok (.invokevirtual 242, 3) := dk_get dk_d02_273 18 rfl
theorem dX11_party_35 : decode cX11_party 35 = .ok (.ireturn, 1) := dk_get dk_d02_273 19 rfl
theorem dk_d02_274 : dkc cX11_seats [(0, .aload_n 0, 1), (1, .getfield 12, 3), (4, .getfield 246, 3), (7, .iconst 0, 1), (8, .aaload, 1), (9, .astore 4, 2), (11, .iload_n 1, 1), (12, .iconst 1, 1), (13, .if_icmp .lt 31, 3), (16, .iload_n 1, 1), (17, .bipush 40, 2), (19, .if_icmp .gt 25, 3), (22, .iload_n 2, 1), (23, .ifCond .lt 21, 3), (26, .iload_n 2, 1), (27, .iconst 1, 1), (28, .if_icmp .gt 16, 3), (31, .iload_n 3, 1), (32, .ifCond .lt 12, 3), (35, .iload_n 3, 1), (36, .aload 4, 2), (38, .getfield 250, 3), (41, .if_icmp .lt 5, 3), (44, .iconst (-1), 1), (45, .ireturn, 1)] = true := by decide +kernel
theorem dX11_seats_0 : decode cX11_seats 0 = .ok (.aload_n 0, 1) := dk_get dk_d02_274 0 rfl
theorem dX11_seats_1 : decode cX11_seats 1 = .ok (.getfield 12, 3) := dk_get dk_d02_274 1 rfl
theorem dX11_seats_4 : decode cX11_seats 4 = .ok (.getfield 246, 3) := dk_get dk_d02_274 2 rfl
theorem dX11_seats_7 : decode cX11_seats 7 = .ok (.iconst 0, 1) := dk_get dk_d02_274 3 rfl
theorem dX11_seats_8 : decode cX11_seats 8 = .ok (.aaload, 1) := dk_get dk_d02_274 4 rfl
theorem dX11_seats_9 : decode cX11_seats 9 = .ok (.astore 4, 2) := dk_get dk_d02_274 5 rfl
theorem dX11_seats_11 : decode cX11_seats 11 = .ok (.iload_n 1, 1) := dk_get dk_d02_274 6 rfl
theorem dX11_seats_12 : decode cX11_seats 12 = .ok (.iconst 1, 1) := dk_get dk_d02_274 7 rfl
theorem dX11_seats_13 : decode cX11_seats 13 = .ok (.if_icmp .lt 31, 3) := dk_get dk_d02_274 8 rfl
theorem dX11_seats_16 : decode cX11_seats 16 = .ok (.iload_n 1, 1) := dk_get dk_d02_274 9 rfl
theorem dX11_seats_17 : decode cX11_seats 17 = .ok (.bipush 40, 2) := dk_get dk_d02_274 10 rfl
theorem dX11_seats_19 : decode cX11_seats 19 = .ok (.if_icmp .gt 25, 3) := dk_get dk_d02_274 11 rfl
theorem dX11_seats_22 : decode cX11_seats 22 = .ok (.iload_n 2, 1) := dk_get dk_d02_274 12 rfl
theorem dX11_seats_23 : decode cX11_seats 23 = .ok (.ifCond .lt 21, 3) := dk_get dk_d02_274 13 rfl
theorem dX11_seats_26 : decode cX11_seats 26 = .ok (.iload_n 2, 1) := dk_get dk_d02_274 14 rfl
theorem dX11_seats_27 : decode cX11_seats 27 = .ok (.iconst 1, 1) := dk_get dk_d02_274 15 rfl
theorem dX11_seats_28 : decode cX11_seats 28 = .ok (.if_icmp .gt 16, 3) := dk_get dk_d02_274 16 rfl
theorem dX11_seats_31 : decode cX11_seats 31 = .ok (.iload_n 3, 1) := dk_get dk_d02_274 17 rfl
theorem dX11_seats_32 : decode cX11_seats 32 = .ok (.ifCond .lt 12, 3) := dk_get dk_d02_274 18 rfl
theorem dX11_seats_35 : decode cX11_seats 35 = .ok (.iload_n 3, 1) := dk_get dk_d02_274 19 rfl
theorem dX11_seats_36 : decode cX11_seats 36 = .ok (.aload 4, 2) := dk_get dk_d02_274 20 rfl
theorem dX11_seats_38 : decode cX11_seats 38 = .ok (.getfield 250, 3) := dk_get dk_d02_274 21 rfl
theorem dX11_seats_41 : decode cX11_seats 41 = .ok (.if_icmp .lt 5, 3) := dk_get dk_d02_274 22 rfl
theorem dX11_seats_44 : decode cX11_seats 44 = .ok (.iconst (-1), 1) := dk_get dk_d02_274 23 rfl
theorem dX11_seats_45 : decode cX11_seats 45 = .ok (.ireturn, 1) := dk_get dk_d02_274 24 rfl
theorem dk_d02_275 : dkc cX11_seats [(46, .aload_n 0, 1), (47, .getfield 54, 3), (50, .aload 4, 2), (52, .iload_n 1, 1), (53, .iload_n 2, 1), (54, .iload_n 3, 1), (55, .invokevirtual 255, 3), (58, .ireturn, 1)] = true := by decide +kernel
theorem dX11_seats_46 : decode cX11_seats 46 = .ok (.aload_n 0, 1) := dk_get dk_d02_275 0 rfl
theorem dX11_seats_47 : decode cX11_seats 47 = .ok (.getfield 54, 3) := dk_get dk_d02_275 1 rfl
theorem dX11_seats_50 : decode cX11_seats 50 = .ok (.aload 4, 2) := dk_get dk_d02_275 2 rfl
theorem dX11_seats_52 : decode cX11_seats 52 = .ok (.iload_n 1, 1) := dk_get dk_d02_275 3 rfl
theorem dX11_seats_53 : decode cX11_seats 53 = .ok (.iload_n 2, 1) := dk_get dk_d02_275 4 rfl
theorem dX11_seats_54 : decode cX11_seats 54 = .ok (.iload_n 3, 1) := dk_get dk_d02_275 5 rfl
theorem dX11_seats_55 : decode cX11_seats 55 = .ok (.invokevirtual 255, 3) := dk_get dk_d02_275 6 rfl
theorem dX11_seats_58 : decode cX11_seats 58 = .ok (.ireturn, 1) := dk_get dk_d02_275 7 rfl
theorem dk_d02_276 : dkc cX11_house [(0, .aload_n 0, 1), (1, .getfield 12, 3), (4, .iconst 1, 1), (5, .iload_n 1, 1), (6, .iconst (-1), 1), (7, .if_icmp .ne 7, 3), (10, .iconst 1, 1), (11, .goto 4, 3), (14, .iconst 0, 1), (15, .iload_n 1, 1), (16, .ifCond .eq 8, 3), (19, .iload_n 1, 1), (20, .iconst 1, 1), (21, .if_icmp .ne 7, 3), (24, .iconst 1, 1), (25, .goto 4, 3), (28, .iconst 0, 1), (29, .iload_n 1, 1), (30, .invokevirtual 242, 3), (33, .ireturn, 1)] = true := by decide +kernel
theorem dX11_house_0 : decode cX11_house 0 = .ok (.aload_n 0, 1) := dk_get dk_d02_276 0 rfl
theorem dX11_house_1 : decode cX11_house 1 = .ok (.getfield 12, 3) := dk_get dk_d02_276 1 rfl
theorem dX11_house_4 : decode cX11_house 4 = .ok (.iconst 1, 1) := dk_get dk_d02_276 2 rfl
theorem dX11_house_5 : decode cX11_house 5 = .ok (.iload_n 1, 1) := dk_get dk_d02_276 3 rfl
theorem dX11_house_6 : decode cX11_house 6 = .ok (.iconst (-1), 1) := dk_get dk_d02_276 4 rfl
theorem dX11_house_7 : decode cX11_house 7 = .ok (.if_icmp .ne 7, 3) := dk_get dk_d02_276 5 rfl
theorem dX11_house_10 : decode cX11_house 10 = .ok (.iconst 1, 1) := dk_get dk_d02_276 6 rfl
theorem dX11_house_11 : decode cX11_house 11 = .ok (.goto 4, 3) := dk_get dk_d02_276 7 rfl
theorem dX11_house_14 : decode cX11_house 14 = .ok (.iconst 0, 1) := dk_get dk_d02_276 8 rfl
theorem dX11_house_15 : decode cX11_house 15 = .ok (.iload_n 1, 1) := dk_get dk_d02_276 9 rfl
theorem dX11_house_16 : decode cX11_house 16 = .ok (.ifCond .eq 8, 3) := dk_get dk_d02_276 10 rfl
theorem dX11_house_19 : decode cX11_house 19 = .ok (.iload_n 1, 1) := dk_get dk_d02_276 11 rfl
theorem dX11_house_20 : decode cX11_house 20 = .ok (.iconst 1, 1) := dk_get dk_d02_276 12 rfl
theorem dX11_house_21 : decode cX11_house 21 = .ok (.if_icmp .ne 7, 3) := dk_get dk_d02_276 13 rfl
theorem dX11_house_24 : decode cX11_house 24 = .ok (.iconst 1, 1) := dk_get dk_d02_276 14 rfl
theorem dX11_house_25 : decode cX11_house 25 = .ok (.goto 4, 3) := dk_get dk_d02_276 15 rfl
theorem dX11_house_28 : decode cX11_house 28 = .ok (.iconst 0, 1) := dk_get dk_d02_276 16 rfl
theorem dX11_house_29 : decode cX11_house 29 = .ok (.iload_n 1, 1) := dk_get dk_d02_276 17 rfl
theorem dX11_house_30 : decode cX11_house 30 = .ok (.invokevirtual 242, 3) := dk_get dk_d02_276 18 rfl
theorem dX11_house_33 : decode cX11_house 33 = .ok (.ireturn, 1) := dk_get dk_d02_276 19 rfl
theorem dk_d02_277 : dkc cX11_parishes [(0, .aload_n 0, 1), (1, .getfield 12, 3), (4, .getfield 246, 3), (7, .iconst 1, 1), (8, .aaload, 1), (9, .astore_n 3, 1), (10, .iload_n 1, 1), (11, .iconst 1, 1), (12, .if_icmp .lt 26, 3), (15, .iload_n 1, 1), (16, .bipush 8, 2), (18, .if_icmp .gt 20, 3), (21, .iload_n 1, 1), (22, .aload_n 3, 1), (23, .getfield 250, 3), (26, .if_icmp .gt 12, 3), (29, .iload_n 2, 1), (30, .ifCond .lt 8, 3), (33, .iload_n 2, 1), (34, .iconst 1, 1), (35, .if_icmp .le 5, 3), (38, .iconst (-1), 1), (39, .ireturn, 1), (40, .aload_n 0, 1), (41, .getfield 54, 3)] = true := by decide +kernel
theorem dX11_parishes_0 : decode cX11_parishes 0 = .ok (.aload_n 0, 1) := dk_get dk_d02_277 0 rfl
theorem dX11_parishes_1 : decode cX11_parishes 1 = .ok (.getfield 12, 3) := dk_get dk_d02_277 1 rfl
theorem dX11_parishes_4 : decode cX11_parishes 4 = .ok (.getfield 246, 3) := dk_get dk_d02_277 2 rfl
theorem dX11_parishes_7 : decode cX11_parishes 7 = .ok (.iconst 1, 1) := dk_get dk_d02_277 3 rfl
theorem dX11_parishes_8 : decode cX11_parishes 8 = .ok (.aaload, 1) := dk_get dk_d02_277 4 rfl
theorem dX11_parishes_9 : decode cX11_parishes 9 = .ok (.astore_n 3, 1) := dk_get dk_d02_277 5 rfl
theorem dX11_parishes_10 : decode cX11_parishes 10 = .ok (.iload_n 1, 1) := dk_get dk_d02_277 6 rfl
theorem dX11_parishes_11 : decode cX11_parishes 11 = .ok (.iconst 1, 1) := dk_get dk_d02_277 7 rfl
theorem dX11_parishes_12 : decode cX11_parishes 12 = .ok (.if_icmp .lt 26, 3) := dk_get dk_d02_277 8 rfl
theorem dX11_parishes_15 : decode cX11_parishes 15 = .ok (.iload_n 1, 1) := dk_get dk_d02_277 9 rfl
theorem dX11_parishes_16 : decode cX11_parishes 16 = .ok (.bipush 8, 2) := dk_get dk_d02_277 10 rfl
theorem dX11_parishes_18 : decode cX11_parishes 18 = .ok (.if_icmp .gt 20, 3) := dk_get dk_d02_277 11 rfl
theorem dX11_parishes_21 : decode cX11_parishes 21 = .ok (.iload_n 1, 1) := dk_get dk_d02_277 12 rfl
theorem dX11_parishes_22 : decode cX11_parishes 22 = .ok (.aload_n 3, 1) := dk_get dk_d02_277 13 rfl
theorem dX11_parishes_23 : decode cX11_parishes 23 = .ok (.getfield 250, 3) := dk_get dk_d02_277 14 rfl
theorem dX11_parishes_26 : decode cX11_parishes 26 = .ok (.if_icmp .gt 12, 3) := dk_get dk_d02_277 15 rfl
theorem dX11_parishes_29 : decode cX11_parishes 29 = .ok (.iload_n 2, 1) := dk_get dk_d02_277 16 rfl
theorem dX11_parishes_30 : decode cX11_parishes 30 = .ok (.ifCond .lt 8, 3) := dk_get dk_d02_277 17 rfl
theorem dX11_parishes_33 : decode cX11_parishes 33 = .ok (.iload_n 2, 1) := dk_get dk_d02_277 18 rfl
theorem dX11_parishes_34 : decode cX11_parishes 34 = .ok (.iconst 1, 1) := dk_get dk_d02_277 19 rfl
theorem dX11_parishes_35 : decode cX11_parishes 35 = .ok (.if_icmp .le 5, 3) := dk_get dk_d02_277 20 rfl
theorem dX11_parishes_38 : decode cX11_parishes 38 = .ok (.iconst (-1), 1) := dk_get dk_d02_277 21 rfl
theorem dX11_parishes_39 : decode cX11_parishes 39 = .ok (.ireturn, 1) := dk_get dk_d02_277 22 rfl
theorem dX11_parishes_40 : decode cX11_parishes 40 = .ok (.aload_n 0, 1) := dk_get dk_d02_277 23 rfl
theorem dX11_parishes_41 : decode cX11_parishes 41 = .ok (.getfield 54, 3) := dk_get dk_d02_277 24 rfl
theorem dk_d02_278 : dkc cX11_parishes [(44, .aload_n 3, 1), (45, .iload_n 1, 1), (46, .iload_n 2, 1), (47, .ifCond .ne 7, 3), (50, .iconst 1, 1), (51, .goto 4, 3), (54, .iconst 0, 1), (55, .invokevirtual 259, 3), (58, .ireturn, 1)] = true := by decide +kernel
theorem dX11_parishes_44 : decode cX11_parishes 44 = .ok (.aload_n 3, 1) := dk_get dk_d02_278 0 rfl
theorem dX11_parishes_45 : decode cX11_parishes 45 = .ok (.iload_n 1, 1) := dk_get dk_d02_278 1 rfl
theorem dX11_parishes_46 : decode cX11_parishes 46 = .ok (.iload_n 2, 1) := dk_get dk_d02_278 2 rfl
theorem dX11_parishes_47 : decode cX11_parishes 47 = .ok (.ifCond .ne 7, 3) := dk_get dk_d02_278 3 rfl
theorem dX11_parishes_50 : decode cX11_parishes 50 = .ok (.iconst 1, 1) := dk_get dk_d02_278 4 rfl
theorem dX11_parishes_51 : decode cX11_parishes 51 = .ok (.goto 4, 3) := dk_get dk_d02_278 5 rfl
theorem dX11_parishes_54 : decode cX11_parishes 54 = .ok (.iconst 0, 1) := dk_get dk_d02_278 6 rfl
theorem dX11_parishes_55 : decode cX11_parishes 55 = .ok (.invokevirtual 259, 3) := dk_get dk_d02_278 7 rfl
theorem dX11_parishes_58 : decode cX11_parishes 58 = .ok (.ireturn, 1) := dk_get dk_d02_278 8 rfl
theorem dk_d02_279 : dkc cX11_wish [(0, .aload_n 0, 1), (1, .getfield 12, 3), (4, .iconst 2, 1), (5, .iload_n 1, 1), (6, .iconst (-1), 1), (7, .if_icmp .ne 7, 3), (10, .iconst 1, 1), (11, .goto 4, 3), (14, .iconst 0, 1), (15, .iload_n 1, 1), (16, .ifCond .lt 13, 3), (19, .iload_n 1, 1), (20, .bipush 99, 2), (22, .if_icmp .gt 7, 3), (25, .iconst 1, 1), (26, .goto 4, 3), (29, .iconst 0, 1), (30, .iload_n 1, 1), (31, .invokevirtual 242, 3), (34, .ireturn, 1)] = true := by decide +kernel
theorem dX11_wish_0 : decode cX11_wish 0 = .ok (.aload_n 0, 1) := dk_get dk_d02_279 0 rfl
theorem dX11_wish_1 : decode cX11_wish 1 = .ok (.getfield 12, 3) := dk_get dk_d02_279 1 rfl
theorem dX11_wish_4 : decode cX11_wish 4 = .ok (.iconst 2, 1) := dk_get dk_d02_279 2 rfl
theorem dX11_wish_5 : decode cX11_wish 5 = .ok (.iload_n 1, 1) := dk_get dk_d02_279 3 rfl
theorem dX11_wish_6 : decode cX11_wish 6 = .ok (.iconst (-1), 1) := dk_get dk_d02_279 4 rfl
theorem dX11_wish_7 : decode cX11_wish 7 = .ok (.if_icmp .ne 7, 3) := dk_get dk_d02_279 5 rfl
theorem dX11_wish_10 : decode cX11_wish 10 = .ok (.iconst 1, 1) := dk_get dk_d02_279 6 rfl
theorem dX11_wish_11 : decode cX11_wish 11 = .ok (.goto 4, 3) := dk_get dk_d02_279 7 rfl
theorem dX11_wish_14 : decode cX11_wish 14 = .ok (.iconst 0, 1) := dk_get dk_d02_279 8 rfl
theorem dX11_wish_15 : decode cX11_wish 15 = .ok (.iload_n 1, 1) := dk_get dk_d02_279 9 rfl
theorem dX11_wish_16 : decode cX11_wish 16 = .ok (.ifCond .lt 13, 3) := dk_get dk_d02_279 10 rfl
theorem dX11_wish_19 : decode cX11_wish 19 = .ok (.iload_n 1, 1) := dk_get dk_d02_279 11 rfl
theorem dX11_wish_20 : decode cX11_wish 20 = .ok (.bipush 99, 2) := dk_get dk_d02_279 12 rfl
theorem dX11_wish_22 : decode cX11_wish 22 = .ok (.if_icmp .gt 7, 3) := dk_get dk_d02_279 13 rfl
theorem dX11_wish_25 : decode cX11_wish 25 = .ok (.iconst 1, 1) := dk_get dk_d02_279 14 rfl
theorem dX11_wish_26 : decode cX11_wish 26 = .ok (.goto 4, 3) := dk_get dk_d02_279 15 rfl
theorem dX11_wish_29 : decode cX11_wish 29 = .ok (.iconst 0, 1) := dk_get dk_d02_279 16 rfl
theorem dX11_wish_30 : decode cX11_wish 30 = .ok (.iload_n 1, 1) := dk_get dk_d02_279 17 rfl
theorem dX11_wish_31 : decode cX11_wish 31 = .ok (.invokevirtual 242, 3) := dk_get dk_d02_279 18 rfl
theorem dX11_wish_34 : decode cX11_wish 34 = .ok (.ireturn, 1) := dk_get dk_d02_279 19 rfl
theorem dk_d02_280 : dkc cX11_name [(0, .aload_n 0, 1), (1, .getfield 12, 3), (4, .iconst 3, 1), (5, .iload_n 1, 1), (6, .iconst (-1), 1), (7, .if_icmp .ne 7, 3), (10, .iconst 1, 1), (11, .goto 4, 3), (14, .iconst 0, 1), (15, .iload_n 1, 1), (16, .ifCond .lt 13, 3), (19, .iload_n 1, 1), (20, .bipush 9, 2), (22, .if_icmp .gt 7, 3), (25, .iconst 1, 1), (26, .goto 4, 3), (29, .iconst 0, 1), (30, .iload_n 1, 1), (31, .invokevirtual 242, 3), (34, .ireturn, 1)] = true := by decide +kernel
theorem dX11_name_0 : decode cX11_name 0 = .ok (.aload_n 0, 1) := dk_get dk_d02_280 0 rfl
theorem dX11_name_1 : decode cX11_name 1 = .ok (.getfield 12, 3) := dk_get dk_d02_280 1 rfl
theorem dX11_name_4 : decode cX11_name 4 = .ok (.iconst 3, 1) := dk_get dk_d02_280 2 rfl
theorem dX11_name_5 : decode cX11_name 5 = .ok (.iload_n 1, 1) := dk_get dk_d02_280 3 rfl
theorem dX11_name_6 : decode cX11_name 6 = .ok (.iconst (-1), 1) := dk_get dk_d02_280 4 rfl
theorem dX11_name_7 : decode cX11_name 7 = .ok (.if_icmp .ne 7, 3) := dk_get dk_d02_280 5 rfl
theorem dX11_name_10 : decode cX11_name 10 = .ok (.iconst 1, 1) := dk_get dk_d02_280 6 rfl
theorem dX11_name_11 : decode cX11_name 11 = .ok (.goto 4, 3) := dk_get dk_d02_280 7 rfl
theorem dX11_name_14 : decode cX11_name 14 = .ok (.iconst 0, 1) := dk_get dk_d02_280 8 rfl
theorem dX11_name_15 : decode cX11_name 15 = .ok (.iload_n 1, 1) := dk_get dk_d02_280 9 rfl
theorem dX11_name_16 : decode cX11_name 16 = .ok (.ifCond .lt 13, 3) := dk_get dk_d02_280 10 rfl
theorem dX11_name_19 : decode cX11_name 19 = .ok (.iload_n 1, 1) := dk_get dk_d02_280 11 rfl
theorem dX11_name_20 : decode cX11_name 20 = .ok (.bipush 9, 2) := dk_get dk_d02_280 12 rfl
theorem dX11_name_22 : decode cX11_name 22 = .ok (.if_icmp .gt 7, 3) := dk_get dk_d02_280 13 rfl
theorem dX11_name_25 : decode cX11_name 25 = .ok (.iconst 1, 1) := dk_get dk_d02_280 14 rfl
theorem dX11_name_26 : decode cX11_name 26 = .ok (.goto 4, 3) := dk_get dk_d02_280 15 rfl
theorem dX11_name_29 : decode cX11_name 29 = .ok (.iconst 0, 1) := dk_get dk_d02_280 16 rfl
theorem dX11_name_30 : decode cX11_name 30 = .ok (.iload_n 1, 1) := dk_get dk_d02_280 17 rfl
theorem dX11_name_31 : decode cX11_name 31 = .ok (.invokevirtual 242, 3) := dk_get dk_d02_280 18 rfl
theorem dX11_name_34 : decode cX11_name 34 = .ok (.ireturn, 1) := dk_get dk_d02_280 19 rfl
theorem dk_d02_281 : dkc cX11_middle [(0, .iload_n 1, 1), (1, .tableswitch 99 0 3 #[31, 48, 65, 82], 31), (32, .aload_n 0, 1), (33, .getfield 54, 3), (36, .aload_n 0, 1), (37, .getfield 12, 3), (40, .getfield 246, 3), (43, .iconst 2, 1), (44, .aaload, 1), (45, .invokevirtual 263, 3), (48, .ireturn, 1), (49, .aload_n 0, 1), (50, .getfield 54, 3), (53, .aload_n 0, 1), (54, .getfield 12, 3), (57, .getfield 246, 3), (60, .iconst 2, 1), (61, .aaload, 1), (62, .invokevirtual 267, 3), (65, .ireturn, 1), (66, .aload_n 0, 1), (67, .getfield 54, 3), (70, .aload_n 0, 1), (71, .getfield 12, 3), (74, .getfield 246, 3)] = true := by decide +kernel
theorem dX11_middle_0 : decode cX11_middle 0 = .ok (.iload_n 1, 1) := dk_get dk_d02_281 0 rfl
theorem dX11_middle_1 : decode cX11_middle 1 = .ok (.tableswitch 99 0 3 #[31, 48, 65, 82], 31) := dk_get dk_d02_281 1 rfl
theorem dX11_middle_32 : decode cX11_middle 32 = .ok (.aload_n 0, 1) := dk_get dk_d02_281 2 rfl
theorem dX11_middle_33 : decode cX11_middle 33 = .ok (.getfield 54, 3) := dk_get dk_d02_281 3 rfl
theorem dX11_middle_36 : decode cX11_middle 36 = .ok (.aload_n 0, 1) := dk_get dk_d02_281 4 rfl
theorem dX11_middle_37 : decode cX11_middle 37 = .ok (.getfield 12, 3) := dk_get dk_d02_281 5 rfl
theorem dX11_middle_40 : decode cX11_middle 40 = .ok (.getfield 246, 3) := dk_get dk_d02_281 6 rfl
theorem dX11_middle_43 : decode cX11_middle 43 = .ok (.iconst 2, 1) := dk_get dk_d02_281 7 rfl
theorem dX11_middle_44 : decode cX11_middle 44 = .ok (.aaload, 1) := dk_get dk_d02_281 8 rfl
theorem dX11_middle_45 : decode cX11_middle 45 = .ok (.invokevirtual 263, 3) := dk_get dk_d02_281 9 rfl
theorem dX11_middle_48 : decode cX11_middle 48 = .ok (.ireturn, 1) := dk_get dk_d02_281 10 rfl
theorem dX11_middle_49 : decode cX11_middle 49 = .ok (.aload_n 0, 1) := dk_get dk_d02_281 11 rfl
theorem dX11_middle_50 : decode cX11_middle 50 = .ok (.getfield 54, 3) := dk_get dk_d02_281 12 rfl
theorem dX11_middle_53 : decode cX11_middle 53 = .ok (.aload_n 0, 1) := dk_get dk_d02_281 13 rfl
theorem dX11_middle_54 : decode cX11_middle 54 = .ok (.getfield 12, 3) := dk_get dk_d02_281 14 rfl
theorem dX11_middle_57 : decode cX11_middle 57 = .ok (.getfield 246, 3) := dk_get dk_d02_281 15 rfl
theorem dX11_middle_60 : decode cX11_middle 60 = .ok (.iconst 2, 1) := dk_get dk_d02_281 16 rfl
theorem dX11_middle_61 : decode cX11_middle 61 = .ok (.aaload, 1) := dk_get dk_d02_281 17 rfl
theorem dX11_middle_62 : decode cX11_middle 62 = .ok (.invokevirtual 267, 3) := dk_get dk_d02_281 18 rfl
theorem dX11_middle_65 : decode cX11_middle 65 = .ok (.ireturn, 1) := dk_get dk_d02_281 19 rfl
theorem dX11_middle_66 : decode cX11_middle 66 = .ok (.aload_n 0, 1) := dk_get dk_d02_281 20 rfl
theorem dX11_middle_67 : decode cX11_middle 67 = .ok (.getfield 54, 3) := dk_get dk_d02_281 21 rfl
theorem dX11_middle_70 : decode cX11_middle 70 = .ok (.aload_n 0, 1) := dk_get dk_d02_281 22 rfl
theorem dX11_middle_71 : decode cX11_middle 71 = .ok (.getfield 12, 3) := dk_get dk_d02_281 23 rfl
theorem dX11_middle_74 : decode cX11_middle 74 = .ok (.getfield 246, 3) := dk_get dk_d02_281 24 rfl
theorem dk_d02_282 : dkc cX11_middle [(77, .iconst 3, 1), (78, .aaload, 1), (79, .invokevirtual 270, 3), (82, .ireturn, 1), (83, .aload_n 0, 1), (84, .getfield 54, 3), (87, .aload_n 0, 1), (88, .getfield 12, 3), (91, .getfield 246, 3), (94, .iconst 3, 1), (95, .aaload, 1), (96, .invokevirtual 273, 3), (99, .ireturn, 1), (100, .iconst (-1), 1), (101, .ireturn, 1)] = true := by decide +kernel
theorem dX11_middle_77 : decode cX11_middle 77 = .ok (.iconst 3, 1) := dk_get dk_d02_282 0 rfl
theorem dX11_middle_78 : decode cX11_middle 78 = .ok (.aaload, 1) := dk_get dk_d02_282 1 rfl
theorem dX11_middle_79 : decode cX11_middle 79 = .ok (.invokevirtual 270, 3) := dk_get dk_d02_282 2 rfl
theorem dX11_middle_82 : decode cX11_middle 82 = .ok (.ireturn, 1) := dk_get dk_d02_282 3 rfl
theorem dX11_middle_83 : decode cX11_middle 83 = .ok (.aload_n 0, 1) := dk_get dk_d02_282 4 rfl
theorem dX11_middle_84 : decode cX11_middle 84 = .ok (.getfield 54, 3) := dk_get dk_d02_282 5 rfl
theorem dX11_middle_87 : decode cX11_middle 87 = .ok (.aload_n 0, 1) := dk_get dk_d02_282 6 rfl
theorem dX11_middle_88 : decode cX11_middle 88 = .ok (.getfield 12, 3) := dk_get dk_d02_282 7 rfl
theorem dX11_middle_91 : decode cX11_middle 91 = .ok (.getfield 246, 3) := dk_get dk_d02_282 8 rfl
theorem dX11_middle_94 : decode cX11_middle 94 = .ok (.iconst 3, 1) := dk_get dk_d02_282 9 rfl
theorem dX11_middle_95 : decode cX11_middle 95 = .ok (.aaload, 1) := dk_get dk_d02_282 10 rfl
theorem dX11_middle_96 : decode cX11_middle 96 = .ok (.invokevirtual 273, 3) := dk_get dk_d02_282 11 rfl
theorem dX11_middle_99 : decode cX11_middle 99 = .ok (.ireturn, 1) := dk_get dk_d02_282 12 rfl
theorem dX11_middle_100 : decode cX11_middle 100 = .ok (.iconst (-1), 1) := dk_get dk_d02_282 13 rfl
theorem dX11_middle_101 : decode cX11_middle 101 = .ok (.ireturn, 1) := dk_get dk_d02_282 14 rfl
theorem dk_d02_283 : dkc cX11_candle [(0, .aload_n 0, 1), (1, .getfield 12, 3), (4, .iconst 4, 1), (5, .iload_n 1, 1), (6, .iconst (-1), 1), (7, .if_icmp .ne 7, 3), (10, .iconst 1, 1), (11, .goto 4, 3), (14, .iconst 0, 1), (15, .iload_n 1, 1), (16, .iconst 1, 1), (17, .if_icmp .lt 13, 3), (20, .iload_n 1, 1), (21, .bipush 50, 2), (23, .if_icmp .gt 7, 3), (26, .iconst 1, 1), (27, .goto 4, 3), (30, .iconst 0, 1), (31, .iload_n 1, 1), (32, .invokevirtual 242, 3), (35, .ireturn, 1)] = true := by decide +kernel
theorem dX11_candle_0 : decode cX11_candle 0 = .ok (.aload_n 0, 1) := dk_get dk_d02_283 0 rfl
theorem dX11_candle_1 : decode cX11_candle 1 = .ok (.getfield 12, 3) := dk_get dk_d02_283 1 rfl
theorem dX11_candle_4 : decode cX11_candle 4 = .ok (.iconst 4, 1) := dk_get dk_d02_283 2 rfl
theorem dX11_candle_5 : decode cX11_candle 5 = .ok (.iload_n 1, 1) := dk_get dk_d02_283 3 rfl
theorem dX11_candle_6 : decode cX11_candle 6 = .ok (.iconst (-1), 1) := dk_get dk_d02_283 4 rfl
theorem dX11_candle_7 : decode cX11_candle 7 = .ok (.if_icmp .ne 7, 3) := dk_get dk_d02_283 5 rfl
theorem dX11_candle_10 : decode cX11_candle 10 = .ok (.iconst 1, 1) := dk_get dk_d02_283 6 rfl
theorem dX11_candle_11 : decode cX11_candle 11 = .ok (.goto 4, 3) := dk_get dk_d02_283 7 rfl
theorem dX11_candle_14 : decode cX11_candle 14 = .ok (.iconst 0, 1) := dk_get dk_d02_283 8 rfl
theorem dX11_candle_15 : decode cX11_candle 15 = .ok (.iload_n 1, 1) := dk_get dk_d02_283 9 rfl
theorem dX11_candle_16 : decode cX11_candle 16 = .ok (.iconst 1, 1) := dk_get dk_d02_283 10 rfl
theorem dX11_candle_17 : decode cX11_candle 17 = .ok (.if_icmp .lt 13, 3) := dk_get dk_d02_283 11 rfl
theorem dX11_candle_20 : decode cX11_candle 20 = .ok (.iload_n 1, 1) := dk_get dk_d02_283 12 rfl
theorem dX11_candle_21 : decode cX11_candle 21 = .ok (.bipush 50, 2) := dk_get dk_d02_283 13 rfl
theorem dX11_candle_23 : decode cX11_candle 23 = .ok (.if_icmp .gt 7, 3) := dk_get dk_d02_283 14 rfl
theorem dX11_candle_26 : decode cX11_candle 26 = .ok (.iconst 1, 1) := dk_get dk_d02_283 15 rfl
theorem dX11_candle_27 : decode cX11_candle 27 = .ok (.goto 4, 3) := dk_get dk_d02_283 16 rfl
theorem dX11_candle_30 : decode cX11_candle 30 = .ok (.iconst 0, 1) := dk_get dk_d02_283 17 rfl
theorem dX11_candle_31 : decode cX11_candle 31 = .ok (.iload_n 1, 1) := dk_get dk_d02_283 18 rfl
theorem dX11_candle_32 : decode cX11_candle 32 = .ok (.invokevirtual 242, 3) := dk_get dk_d02_283 19 rfl
theorem dX11_candle_35 : decode cX11_candle 35 = .ok (.ireturn, 1) := dk_get dk_d02_283 20 rfl
theorem dk_d02_284 : dkc cX11_candles [(0, .iload_n 1, 1), (1, .ifCond .lt 19, 3), (4, .iload_n 1, 1), (5, .sipush 400, 3), (8, .if_icmp .gt 12, 3), (11, .iload_n 2, 1), (12, .ifCond .lt 8, 3), (15, .iload_n 2, 1), (16, .iconst 1, 1), (17, .if_icmp .le 5, 3), (20, .iconst (-1), 1), (21, .ireturn, 1), (22, .aload_n 0, 1), (23, .getfield 54, 3), (26, .aload_n 0, 1), (27, .getfield 12, 3), (30, .getfield 246, 3), (33, .iconst 4, 1), (34, .aaload, 1), (35, .iload_n 1, 1), (36, .iload_n 2, 1), (37, .ifCond .ne 7, 3), (40, .iconst 1, 1), (41, .goto 4, 3), (44, .iconst 0, 1)] = true := by decide +kernel
theorem dX11_candles_0 : decode cX11_candles 0 = .ok (.iload_n 1, 1) := dk_get dk_d02_284 0 rfl
theorem dX11_candles_1 : decode cX11_candles 1 = .ok (.ifCond .lt 19, 3) := dk_get dk_d02_284 1 rfl
theorem dX11_candles_4 : decode cX11_candles 4 = .ok (.iload_n 1, 1) := dk_get dk_d02_284 2 rfl
theorem dX11_candles_5 : decode cX11_candles 5 = .ok (.sipush 400, 3) := dk_get dk_d02_284 3 rfl
theorem dX11_candles_8 : decode cX11_candles 8 = .ok (.if_icmp .gt 12, 3) := dk_get dk_d02_284 4 rfl
theorem dX11_candles_11 : decode cX11_candles 11 = .ok (.iload_n 2, 1) := dk_get dk_d02_284 5 rfl
theorem dX11_candles_12 : decode cX11_candles 12 = .ok (.ifCond .lt 8, 3) := dk_get dk_d02_284 6 rfl
theorem dX11_candles_15 : decode cX11_candles 15 = .ok (.iload_n 2, 1) := dk_get dk_d02_284 7 rfl
theorem dX11_candles_16 : decode cX11_candles 16 = .ok (.iconst 1, 1) := dk_get dk_d02_284 8 rfl
theorem dX11_candles_17 : decode cX11_candles 17 = .ok (.if_icmp .le 5, 3) := dk_get dk_d02_284 9 rfl
theorem dX11_candles_20 : decode cX11_candles 20 = .ok (.iconst (-1), 1) := dk_get dk_d02_284 10 rfl
theorem dX11_candles_21 : decode cX11_candles 21 = .ok (.ireturn, 1) := dk_get dk_d02_284 11 rfl
theorem dX11_candles_22 : decode cX11_candles 22 = .ok (.aload_n 0, 1) := dk_get dk_d02_284 12 rfl
theorem dX11_candles_23 : decode cX11_candles 23 = .ok (.getfield 54, 3) := dk_get dk_d02_284 13 rfl
theorem dX11_candles_26 : decode cX11_candles 26 = .ok (.aload_n 0, 1) := dk_get dk_d02_284 14 rfl
theorem dX11_candles_27 : decode cX11_candles 27 = .ok (.getfield 12, 3) := dk_get dk_d02_284 15 rfl
theorem dX11_candles_30 : decode cX11_candles 30 = .ok (.getfield 246, 3) := dk_get dk_d02_284 16 rfl
theorem dX11_candles_33 : decode cX11_candles 33 = .ok (.iconst 4, 1) := dk_get dk_d02_284 17 rfl
theorem dX11_candles_34 : decode cX11_candles 34 = .ok (.aaload, 1) := dk_get dk_d02_284 18 rfl
theorem dX11_candles_35 : decode cX11_candles 35 = .ok (.iload_n 1, 1) := dk_get dk_d02_284 19 rfl
theorem dX11_candles_36 : decode cX11_candles 36 = .ok (.iload_n 2, 1) := dk_get dk_d02_284 20 rfl
theorem dX11_candles_37 : decode cX11_candles 37 = .ok (.ifCond .ne 7, 3) := dk_get dk_d02_284 21 rfl
theorem dX11_candles_40 : decode cX11_candles 40 = .ok (.iconst 1, 1) := dk_get dk_d02_284 22 rfl
theorem dX11_candles_41 : decode cX11_candles 41 = .ok (.goto 4, 3) := dk_get dk_d02_284 23 rfl
theorem dX11_candles_44 : decode cX11_candles 44 = .ok (.iconst 0, 1) := dk_get dk_d02_284 24 rfl
theorem dk_d02_285 : dkc cX11_candles [(45, .invokevirtual 276, 3), (48, .ireturn, 1)] = true := by decide +kernel
theorem dX11_candles_45 : decode cX11_candles 45 = .ok (.invokevirtual 276, 3) := dk_get dk_d02_285 0 rfl
theorem dX11_candles_48 : decode cX11_candles 48 = .ok (.ireturn, 1) := dk_get dk_d02_285 1 rfl
theorem dk_d02_286 : dkc cX11_door [(0, .iload_n 1, 1), (1, .iconst 1, 1), (2, .if_icmp .lt 24, 3), (5, .iload_n 1, 1), (6, .bipush 50, 2), (8, .if_icmp .gt 18, 3), (11, .iload_n 2, 1), (12, .ifCond .lt 14, 3), (15, .iload_n 2, 1), (16, .sipush 200, 3), (19, .if_icmp .gt 7, 3), (22, .iconst 1, 1), (23, .goto 4, 3), (26, .iconst 0, 1), (27, .istore_n 3, 1), (28, .aload_n 0, 1), (29, .getfield 12, 3), (32, .iconst 5, 1), (33, .iload_n 1, 1), (34, .iconst (-1), 1), (35, .if_icmp .ne 7, 3), (38, .iconst 1, 1), (39, .goto 4, 3), (42, .iconst 0, 1), (43, .iload_n 3, 1)] = true := by decide +kernel
theorem dX11_door_0 : decode cX11_door 0 = .ok (.iload_n 1, 1) := dk_get dk_d02_286 0 rfl
theorem dX11_door_1 : decode cX11_door 1 = .ok (.iconst 1, 1) := dk_get dk_d02_286 1 rfl
theorem dX11_door_2 : decode cX11_door 2 = .ok (.if_icmp .lt 24, 3) := dk_get dk_d02_286 2 rfl
theorem dX11_door_5 : decode cX11_door 5 = .ok (.iload_n 1, 1) := dk_get dk_d02_286 3 rfl
theorem dX11_door_6 : decode cX11_door 6 = .ok (.bipush 50, 2) := dk_get dk_d02_286 4 rfl
theorem dX11_door_8 : decode cX11_door 8 = .ok (.if_icmp .gt 18, 3) := dk_get dk_d02_286 5 rfl
theorem dX11_door_11 : decode cX11_door 11 = .ok (.iload_n 2, 1) := dk_get dk_d02_286 6 rfl
theorem dX11_door_12 : decode cX11_door 12 = .ok (.ifCond .lt 14, 3) := dk_get dk_d02_286 7 rfl
theorem dX11_door_15 : decode cX11_door 15 = .ok (.iload_n 2, 1) := dk_get dk_d02_286 8 rfl
theorem dX11_door_16 : decode cX11_door 16 = .ok (.sipush 200, 3) := dk_get dk_d02_286 9 rfl
theorem dX11_door_19 : decode cX11_door 19 = .ok (.if_icmp .gt 7, 3) := dk_get dk_d02_286 10 rfl
theorem dX11_door_22 : decode cX11_door 22 = .ok (.iconst 1, 1) := dk_get dk_d02_286 11 rfl
theorem dX11_door_23 : decode cX11_door 23 = .ok (.goto 4, 3) := dk_get dk_d02_286 12 rfl
theorem dX11_door_26 : decode cX11_door 26 = .ok (.iconst 0, 1) := dk_get dk_d02_286 13 rfl
theorem dX11_door_27 : decode cX11_door 27 = .ok (.istore_n 3, 1) := dk_get dk_d02_286 14 rfl
theorem dX11_door_28 : decode cX11_door 28 = .ok (.aload_n 0, 1) := dk_get dk_d02_286 15 rfl
theorem dX11_door_29 : decode cX11_door 29 = .ok (.getfield 12, 3) := dk_get dk_d02_286 16 rfl
theorem dX11_door_32 : decode cX11_door 32 = .ok (.iconst 5, 1) := dk_get dk_d02_286 17 rfl
theorem dX11_door_33 : decode cX11_door 33 = .ok (.iload_n 1, 1) := dk_get dk_d02_286 18 rfl
theorem dX11_door_34 : decode cX11_door 34 = .ok (.iconst (-1), 1) := dk_get dk_d02_286 19 rfl
theorem dX11_door_35 : decode cX11_door 35 = .ok (.if_icmp .ne 7, 3) := dk_get dk_d02_286 20 rfl
theorem dX11_door_38 : decode cX11_door 38 = .ok (.iconst 1, 1) := dk_get dk_d02_286 21 rfl
theorem dX11_door_39 : decode cX11_door 39 = .ok (.goto 4, 3) := dk_get dk_d02_286 22 rfl
theorem dX11_door_42 : decode cX11_door 42 = .ok (.iconst 0, 1) := dk_get dk_d02_286 23 rfl
theorem dX11_door_43 : decode cX11_door 43 = .ok (.iload_n 3, 1) := dk_get dk_d02_286 24 rfl
theorem dk_d02_287 : dkc cX11_door [(44, .iload_n 1, 1), (45, .sipush 256, 3), (48, .imul, 1), (49, .iload_n 2, 1), (50, .iadd, 1), (51, .invokevirtual 242, 3), (54, .ireturn, 1)] = true := by decide +kernel
theorem dX11_door_44 : decode cX11_door 44 = .ok (.iload_n 1, 1) := dk_get dk_d02_287 0 rfl
theorem dX11_door_45 : decode cX11_door 45 = .ok (.sipush 256, 3) := dk_get dk_d02_287 1 rfl
theorem dX11_door_48 : decode cX11_door 48 = .ok (.imul, 1) := dk_get dk_d02_287 2 rfl
theorem dX11_door_49 : decode cX11_door 49 = .ok (.iload_n 2, 1) := dk_get dk_d02_287 3 rfl
theorem dX11_door_50 : decode cX11_door 50 = .ok (.iadd, 1) := dk_get dk_d02_287 4 rfl
theorem dX11_door_51 : decode cX11_door 51 = .ok (.invokevirtual 242, 3) := dk_get dk_d02_287 5 rfl
theorem dX11_door_54 : decode cX11_door 54 = .ok (.ireturn, 1) := dk_get dk_d02_287 6 rfl
theorem dk_d02_288 : dkc cX11_stack [(0, .aload_n 0, 1), (1, .getfield 54, 3), (4, .aload_n 0, 1), (5, .getfield 12, 3), (8, .getfield 246, 3), (11, .iconst 5, 1), (12, .aaload, 1), (13, .invokevirtual 279, 3), (16, .ireturn, 1)] = true := by decide +kernel
theorem dX11_stack_0 : decode cX11_stack 0 = .ok (.aload_n 0, 1) := dk_get dk_d02_288 0 rfl
theorem dX11_stack_1 : decode cX11_stack 1 = .ok (.getfield 54, 3) := dk_get dk_d02_288 1 rfl
theorem dX11_stack_4 : decode cX11_stack 4 = .ok (.aload_n 0, 1) := dk_get dk_d02_288 2 rfl
theorem dX11_stack_5 : decode cX11_stack 5 = .ok (.getfield 12, 3) := dk_get dk_d02_288 3 rfl
theorem dX11_stack_8 : decode cX11_stack 8 = .ok (.getfield 246, 3) := dk_get dk_d02_288 4 rfl
theorem dX11_stack_11 : decode cX11_stack 11 = .ok (.iconst 5, 1) := dk_get dk_d02_288 5 rfl
theorem dX11_stack_12 : decode cX11_stack 12 = .ok (.aaload, 1) := dk_get dk_d02_288 6 rfl
theorem dX11_stack_13 : decode cX11_stack 13 = .ok (.invokevirtual 279, 3) := dk_get dk_d02_288 7 rfl
theorem dX11_stack_16 : decode cX11_stack 16 = .ok (.ireturn, 1) := dk_get dk_d02_288 8 rfl
theorem dk_d02_289 : dkc cX11_stands [(0, .aload_n 0, 1), (1, .getfield 12, 3), (4, .bipush 6, 2), (6, .iload_n 1, 1), (7, .iconst (-1), 1), (8, .if_icmp .ne 7, 3), (11, .iconst 1, 1), (12, .goto 4, 3), (15, .iconst 0, 1), (16, .iload_n 1, 1), (17, .ifCond .lt 13, 3), (20, .iload_n 1, 1), (21, .bipush 30, 2), (23, .if_icmp .gt 7, 3), (26, .iconst 1, 1), (27, .goto 4, 3), (30, .iconst 0, 1), (31, .iload_n 1, 1), (32, .invokevirtual 242, 3), (35, .ireturn, 1)] = true := by decide +kernel
theorem dX11_stands_0 : decode cX11_stands 0 = .ok (.aload_n 0, 1) := dk_get dk_d02_289 0 rfl
theorem dX11_stands_1 : decode cX11_stands 1 = .ok (.getfield 12, 3) := dk_get dk_d02_289 1 rfl
theorem dX11_stands_4 : decode cX11_stands 4 = .ok (.bipush 6, 2) := dk_get dk_d02_289 2 rfl
theorem dX11_stands_6 : decode cX11_stands 6 = .ok (.iload_n 1, 1) := dk_get dk_d02_289 3 rfl
theorem dX11_stands_7 : decode cX11_stands 7 = .ok (.iconst (-1), 1) := dk_get dk_d02_289 4 rfl
theorem dX11_stands_8 : decode cX11_stands 8 = .ok (.if_icmp .ne 7, 3) := dk_get dk_d02_289 5 rfl
theorem dX11_stands_11 : decode cX11_stands 11 = .ok (.iconst 1, 1) := dk_get dk_d02_289 6 rfl
theorem dX11_stands_12 : decode cX11_stands 12 = .ok (.goto 4, 3) := dk_get dk_d02_289 7 rfl
theorem dX11_stands_15 : decode cX11_stands 15 = .ok (.iconst 0, 1) := dk_get dk_d02_289 8 rfl
theorem dX11_stands_16 : decode cX11_stands 16 = .ok (.iload_n 1, 1) := dk_get dk_d02_289 9 rfl
theorem dX11_stands_17 : decode cX11_stands 17 = .ok (.ifCond .lt 13, 3) := dk_get dk_d02_289 10 rfl
theorem dX11_stands_20 : decode cX11_stands 20 = .ok (.iload_n 1, 1) := dk_get dk_d02_289 11 rfl
theorem dX11_stands_21 : decode cX11_stands 21 = .ok (.bipush 30, 2) := dk_get dk_d02_289 12 rfl
theorem dX11_stands_23 : decode cX11_stands 23 = .ok (.if_icmp .gt 7, 3) := dk_get dk_d02_289 13 rfl
theorem dX11_stands_26 : decode cX11_stands 26 = .ok (.iconst 1, 1) := dk_get dk_d02_289 14 rfl
theorem dX11_stands_27 : decode cX11_stands 27 = .ok (.goto 4, 3) := dk_get dk_d02_289 15 rfl
theorem dX11_stands_30 : decode cX11_stands 30 = .ok (.iconst 0, 1) := dk_get dk_d02_289 16 rfl
theorem dX11_stands_31 : decode cX11_stands 31 = .ok (.iload_n 1, 1) := dk_get dk_d02_289 17 rfl
theorem dX11_stands_32 : decode cX11_stands 32 = .ok (.invokevirtual 242, 3) := dk_get dk_d02_289 18 rfl
theorem dX11_stands_35 : decode cX11_stands 35 = .ok (.ireturn, 1) := dk_get dk_d02_289 19 rfl
theorem dk_d02_290 : dkc cX11_lantern [(0, .iload_n 1, 1), (1, .ifCond .lt 18, 3), (4, .iload_n 1, 1), (5, .bipush 40, 2), (7, .if_icmp .gt 12, 3), (10, .iload_n 2, 1), (11, .ifCond .lt 8, 3), (14, .iload_n 2, 1), (15, .iconst 1, 1), (16, .if_icmp .le 5, 3), (19, .iconst (-1), 1), (20, .ireturn, 1), (21, .aload_n 0, 1), (22, .getfield 54, 3), (25, .aload_n 0, 1), (26, .getfield 12, 3), (29, .getfield 246, 3), (32, .bipush 6, 2), (34, .aaload, 1), (35, .iload_n 1, 1), (36, .iload_n 2, 1), (37, .ifCond .ne 7, 3), (40, .iconst 1, 1), (41, .goto 4, 3), (44, .iconst 0, 1)] = true := by decide +kernel
theorem dX11_lantern_0 : decode cX11_lantern 0 = .ok (.iload_n 1, 1) := dk_get dk_d02_290 0 rfl
theorem dX11_lantern_1 : decode cX11_lantern 1 = .ok (.ifCond .lt 18, 3) := dk_get dk_d02_290 1 rfl
theorem dX11_lantern_4 : decode cX11_lantern 4 = .ok (.iload_n 1, 1) := dk_get dk_d02_290 2 rfl
theorem dX11_lantern_5 : decode cX11_lantern 5 = .ok (.bipush 40, 2) := dk_get dk_d02_290 3 rfl
theorem dX11_lantern_7 : decode cX11_lantern 7 = .ok (.if_icmp .gt 12, 3) := dk_get dk_d02_290 4 rfl
theorem dX11_lantern_10 : decode cX11_lantern 10 = .ok (.iload_n 2, 1) := dk_get dk_d02_290 5 rfl
theorem dX11_lantern_11 : decode cX11_lantern 11 = .ok (.ifCond .lt 8, 3) := dk_get dk_d02_290 6 rfl
theorem dX11_lantern_14 : decode cX11_lantern 14 = .ok (.iload_n 2, 1) := dk_get dk_d02_290 7 rfl
theorem dX11_lantern_15 : decode cX11_lantern 15 = .ok (.iconst 1, 1) := dk_get dk_d02_290 8 rfl
theorem dX11_lantern_16 : decode cX11_lantern 16 = .ok (.if_icmp .le 5, 3) := dk_get dk_d02_290 9 rfl
theorem dX11_lantern_19 : decode cX11_lantern 19 = .ok (.iconst (-1), 1) := dk_get dk_d02_290 10 rfl
theorem dX11_lantern_20 : decode cX11_lantern 20 = .ok (.ireturn, 1) := dk_get dk_d02_290 11 rfl
theorem dX11_lantern_21 : decode cX11_lantern 21 = .ok (.aload_n 0, 1) := dk_get dk_d02_290 12 rfl
theorem dX11_lantern_22 : decode cX11_lantern 22 = .ok (.getfield 54, 3) := dk_get dk_d02_290 13 rfl
theorem dX11_lantern_25 : decode cX11_lantern 25 = .ok (.aload_n 0, 1) := dk_get dk_d02_290 14 rfl
theorem dX11_lantern_26 : decode cX11_lantern 26 = .ok (.getfield 12, 3) := dk_get dk_d02_290 15 rfl
theorem dX11_lantern_29 : decode cX11_lantern 29 = .ok (.getfield 246, 3) := dk_get dk_d02_290 16 rfl
theorem dX11_lantern_32 : decode cX11_lantern 32 = .ok (.bipush 6, 2) := dk_get dk_d02_290 17 rfl
theorem dX11_lantern_34 : decode cX11_lantern 34 = .ok (.aaload, 1) := dk_get dk_d02_290 18 rfl
theorem dX11_lantern_35 : decode cX11_lantern 35 = .ok (.iload_n 1, 1) := dk_get dk_d02_290 19 rfl
theorem dX11_lantern_36 : decode cX11_lantern 36 = .ok (.iload_n 2, 1) := dk_get dk_d02_290 20 rfl
theorem dX11_lantern_37 : decode cX11_lantern 37 = .ok (.ifCond .ne 7, 3) := dk_get dk_d02_290 21 rfl
theorem dX11_lantern_40 : decode cX11_lantern 40 = .ok (.iconst 1, 1) := dk_get dk_d02_290 22 rfl
theorem dX11_lantern_41 : decode cX11_lantern 41 = .ok (.goto 4, 3) := dk_get dk_d02_290 23 rfl
theorem dX11_lantern_44 : decode cX11_lantern 44 = .ok (.iconst 0, 1) := dk_get dk_d02_290 24 rfl
theorem dk_d02_291 : dkc cX11_lantern [(45, .invokevirtual 282, 3), (48, .ireturn, 1)] = true := by decide +kernel
theorem dX11_lantern_45 : decode cX11_lantern 45 = .ok (.invokevirtual 282, 3) := dk_get dk_d02_291 0 rfl
theorem dX11_lantern_48 : decode cX11_lantern 48 = .ok (.ireturn, 1) := dk_get dk_d02_291 1 rfl
theorem dk_d02_292 : dkc cX11_bill [(0, .aload_n 0, 1), (1, .getfield 12, 3), (4, .bipush 7, 2), (6, .iload_n 1, 1), (7, .iconst (-1), 1), (8, .if_icmp .ne 7, 3), (11, .iconst 1, 1), (12, .goto 4, 3), (15, .iconst 0, 1), (16, .iload_n 1, 1), (17, .iload_n 2, 1), (18, .invokestatic 285, 3), (21, .iload_n 1, 1), (22, .sipush 256, 3), (25, .imul, 1), (26, .iload_n 2, 1), (27, .iadd, 1), (28, .invokevirtual 242, 3), (31, .ireturn, 1)] = true := by decide +kernel
theorem dX11_bill_0 : decode cX11_bill 0 = .ok (.aload_n 0, 1) := dk_get dk_d02_292 0 rfl
theorem dX11_bill_1 : decode cX11_bill 1 = .ok (.getfield 12, 3) := dk_get dk_d02_292 1 rfl
theorem dX11_bill_4 : decode cX11_bill 4 = .ok (.bipush 7, 2) := dk_get dk_d02_292 2 rfl
theorem dX11_bill_6 : decode cX11_bill 6 = .ok (.iload_n 1, 1) := dk_get dk_d02_292 3 rfl
theorem dX11_bill_7 : decode cX11_bill 7 = .ok (.iconst (-1), 1) := dk_get dk_d02_292 4 rfl
theorem dX11_bill_8 : decode cX11_bill 8 = .ok (.if_icmp .ne 7, 3) := dk_get dk_d02_292 5 rfl
theorem dX11_bill_11 : decode cX11_bill 11 = .ok (.iconst 1, 1) := dk_get dk_d02_292 6 rfl
theorem dX11_bill_12 : decode cX11_bill 12 = .ok (.goto 4, 3) := dk_get dk_d02_292 7 rfl
theorem dX11_bill_15 : decode cX11_bill 15 = .ok (.iconst 0, 1) := dk_get dk_d02_292 8 rfl
theorem dX11_bill_16 : decode cX11_bill 16 = .ok (.iload_n 1, 1) := dk_get dk_d02_292 9 rfl
theorem dX11_bill_17 : decode cX11_bill 17 = .ok (.iload_n 2, 1) := dk_get dk_d02_292 10 rfl
theorem dX11_bill_18 : decode cX11_bill 18 = .ok (.invokestatic 285, 3) := dk_get dk_d02_292 11 rfl
theorem dX11_bill_21 : decode cX11_bill 21 = .ok (.iload_n 1, 1) := dk_get dk_d02_292 12 rfl
theorem dX11_bill_22 : decode cX11_bill 22 = .ok (.sipush 256, 3) := dk_get dk_d02_292 13 rfl
theorem dX11_bill_25 : decode cX11_bill 25 = .ok (.imul, 1) := dk_get dk_d02_292 14 rfl
theorem dX11_bill_26 : decode cX11_bill 26 = .ok (.iload_n 2, 1) := dk_get dk_d02_292 15 rfl
theorem dX11_bill_27 : decode cX11_bill 27 = .ok (.iadd, 1) := dk_get dk_d02_292 16 rfl
theorem dX11_bill_28 : decode cX11_bill 28 = .ok (.invokevirtual 242, 3) := dk_get dk_d02_292 17 rfl
theorem dX11_bill_31 : decode cX11_bill 31 = .ok (.ireturn, 1) := dk_get dk_d02_292 18 rfl
theorem dk_d02_293 : dkc cX11_bills [(0, .iload_n 1, 1), (1, .ifCond .lt 8, 3), (4, .iload_n 1, 1), (5, .iconst 2, 1), (6, .if_icmp .le 5, 3), (9, .iconst (-1), 1), (10, .ireturn, 1), (11, .aload_n 0, 1), (12, .getfield 54, 3), (15, .aload_n 0, 1), (16, .getfield 12, 3), (19, .getfield 246, 3), (22, .bipush 7, 2), (24, .aaload, 1), (25, .iload_n 1, 1), (26, .invokevirtual 288, 3), (29, .ireturn, 1)] = true := by decide +kernel
theorem dX11_bills_0 : decode cX11_bills 0 = .ok (.iload_n 1, 1) := dk_get dk_d02_293 0 rfl
theorem dX11_bills_1 : decode cX11_bills 1 = .ok (.ifCond .lt 8, 3) := dk_get dk_d02_293 1 rfl
theorem dX11_bills_4 : decode cX11_bills 4 = .ok (.iload_n 1, 1) := dk_get dk_d02_293 2 rfl
theorem dX11_bills_5 : decode cX11_bills 5 = .ok (.iconst 2, 1) := dk_get dk_d02_293 3 rfl
theorem dX11_bills_6 : decode cX11_bills 6 = .ok (.if_icmp .le 5, 3) := dk_get dk_d02_293 4 rfl
theorem dX11_bills_9 : decode cX11_bills 9 = .ok (.iconst (-1), 1) := dk_get dk_d02_293 5 rfl
theorem dX11_bills_10 : decode cX11_bills 10 = .ok (.ireturn, 1) := dk_get dk_d02_293 6 rfl
theorem dX11_bills_11 : decode cX11_bills 11 = .ok (.aload_n 0, 1) := dk_get dk_d02_293 7 rfl
theorem dX11_bills_12 : decode cX11_bills 12 = .ok (.getfield 54, 3) := dk_get dk_d02_293 8 rfl
theorem dX11_bills_15 : decode cX11_bills 15 = .ok (.aload_n 0, 1) := dk_get dk_d02_293 9 rfl
theorem dX11_bills_16 : decode cX11_bills 16 = .ok (.getfield 12, 3) := dk_get dk_d02_293 10 rfl
theorem dX11_bills_19 : decode cX11_bills 19 = .ok (.getfield 246, 3) := dk_get dk_d02_293 11 rfl
theorem dX11_bills_22 : decode cX11_bills 22 = .ok (.bipush 7, 2) := dk_get dk_d02_293 12 rfl
theorem dX11_bills_24 : decode cX11_bills 24 = .ok (.aaload, 1) := dk_get dk_d02_293 13 rfl
theorem dX11_bills_25 : decode cX11_bills 25 = .ok (.iload_n 1, 1) := dk_get dk_d02_293 14 rfl
theorem dX11_bills_26 : decode cX11_bills 26 = .ok (.invokevirtual 288, 3) := dk_get dk_d02_293 15 rfl
theorem dX11_bills_29 : decode cX11_bills 29 = .ok (.ireturn, 1) := dk_get dk_d02_293 16 rfl
theorem dk_d02_294 : dkc cX11_before [(0, .aload_n 0, 1), (1, .getfield 12, 3), (4, .bipush 8, 2), (6, .iload_n 1, 1), (7, .iconst (-1), 1), (8, .if_icmp .ne 7, 3), (11, .iconst 1, 1), (12, .goto 4, 3), (15, .iconst 0, 1), (16, .iload_n 1, 1), (17, .iload_n 2, 1), (18, .invokestatic 285, 3), (21, .iload_n 1, 1), (22, .sipush 256, 3), (25, .imul, 1), (26, .iload_n 2, 1), (27, .iadd, 1), (28, .invokevirtual 242, 3), (31, .ireturn, 1)] = true := by decide +kernel
theorem dX11_before_0 : decode cX11_before 0 = .ok (.aload_n 0, 1) := dk_get dk_d02_294 0 rfl
theorem dX11_before_1 : decode cX11_before 1 = .ok (.getfield 12, 3) := dk_get dk_d02_294 1 rfl
theorem dX11_before_4 : decode cX11_before 4 = .ok (.bipush 8, 2) := dk_get dk_d02_294 2 rfl
theorem dX11_before_6 : decode cX11_before 6 = .ok (.iload_n 1, 1) := dk_get dk_d02_294 3 rfl
theorem dX11_before_7 : decode cX11_before 7 = .ok (.iconst (-1), 1) := dk_get dk_d02_294 4 rfl
theorem dX11_before_8 : decode cX11_before 8 = .ok (.if_icmp .ne 7, 3) := dk_get dk_d02_294 5 rfl
theorem dX11_before_11 : decode cX11_before 11 = .ok (.iconst 1, 1) := dk_get dk_d02_294 6 rfl
theorem dX11_before_12 : decode cX11_before 12 = .ok (.goto 4, 3) := dk_get dk_d02_294 7 rfl
theorem dX11_before_15 : decode cX11_before 15 = .ok (.iconst 0, 1) := dk_get dk_d02_294 8 rfl
theorem dX11_before_16 : decode cX11_before 16 = .ok (.iload_n 1, 1) := dk_get dk_d02_294 9 rfl
theorem dX11_before_17 : decode cX11_before 17 = .ok (.iload_n 2, 1) := dk_get dk_d02_294 10 rfl
theorem dX11_before_18 : decode cX11_before 18 = .ok (.invokestatic 285, 3) := dk_get dk_d02_294 11 rfl
theorem dX11_before_21 : decode cX11_before 21 = .ok (.iload_n 1, 1) := dk_get dk_d02_294 12 rfl
theorem dX11_before_22 : decode cX11_before 22 = .ok (.sipush 256, 3) := dk_get dk_d02_294 13 rfl
theorem dX11_before_25 : decode cX11_before 25 = .ok (.imul, 1) := dk_get dk_d02_294 14 rfl
theorem dX11_before_26 : decode cX11_before 26 = .ok (.iload_n 2, 1) := dk_get dk_d02_294 15 rfl
theorem dX11_before_27 : decode cX11_before 27 = .ok (.iadd, 1) := dk_get dk_d02_294 16 rfl
theorem dX11_before_28 : decode cX11_before 28 = .ok (.invokevirtual 242, 3) := dk_get dk_d02_294 17 rfl
theorem dX11_before_31 : decode cX11_before 31 = .ok (.ireturn, 1) := dk_get dk_d02_294 18 rfl
theorem dk_d02_295 : dkc cX11_order [(0, .aload_n 0, 1), (1, .getfield 54, 3), (4, .aload_n 0, 1), (5, .getfield 12, 3), (8, .getfield 246, 3), (11, .bipush 8, 2), (13, .aaload, 1), (14, .invokevirtual 292, 3), (17, .ireturn, 1)] = true := by decide +kernel
theorem dX11_order_0 : decode cX11_order 0 = .ok (.aload_n 0, 1) := dk_get dk_d02_295 0 rfl
theorem dX11_order_1 : decode cX11_order 1 = .ok (.getfield 54, 3) := dk_get dk_d02_295 1 rfl
theorem dX11_order_4 : decode cX11_order 4 = .ok (.aload_n 0, 1) := dk_get dk_d02_295 2 rfl
theorem dX11_order_5 : decode cX11_order 5 = .ok (.getfield 12, 3) := dk_get dk_d02_295 3 rfl
theorem dX11_order_8 : decode cX11_order 8 = .ok (.getfield 246, 3) := dk_get dk_d02_295 4 rfl
theorem dX11_order_11 : decode cX11_order 11 = .ok (.bipush 8, 2) := dk_get dk_d02_295 5 rfl
theorem dX11_order_13 : decode cX11_order 13 = .ok (.aaload, 1) := dk_get dk_d02_295 6 rfl
theorem dX11_order_14 : decode cX11_order 14 = .ok (.invokevirtual 292, 3) := dk_get dk_d02_295 7 rfl
theorem dX11_order_17 : decode cX11_order 17 = .ok (.ireturn, 1) := dk_get dk_d02_295 8 rfl
theorem dk_d02_296 : dkc cX11_game [(0, .iload_n 2, 1), (1, .ifCond .lt 19, 3), (4, .iload_n 2, 1), (5, .iconst 1, 1), (6, .if_icmp .gt 14, 3), (9, .aload_n 0, 1), (10, .getfield 61, 3), (13, .iload_n 1, 1), (14, .invokevirtual 295, 3), (17, .ifCond .ne 6, 3), (20, .bipush (-10), 2), (22, .ireturn, 1), (23, .iload_n 2, 1), (24, .ifCond .ne 13, 3), (27, .aload_n 0, 1), (28, .getfield 61, 3), (31, .invokevirtual 298, 3), (34, .goto 10, 3), (37, .aload_n 0, 1), (38, .getfield 61, 3), (41, .invokevirtual 301, 3), (44, .ireturn, 1)] = true := by decide +kernel
theorem dX11_game_0 : decode cX11_game 0 = .ok (.iload_n 2, 1) := dk_get dk_d02_296 0 rfl
theorem dX11_game_1 : decode cX11_game 1 = .ok (.ifCond .lt 19, 3) := dk_get dk_d02_296 1 rfl
theorem dX11_game_4 : decode cX11_game 4 = .ok (.iload_n 2, 1) := dk_get dk_d02_296 2 rfl
theorem dX11_game_5 : decode cX11_game 5 = .ok (.iconst 1, 1) := dk_get dk_d02_296 3 rfl
theorem dX11_game_6 : decode cX11_game 6 = .ok (.if_icmp .gt 14, 3) := dk_get dk_d02_296 4 rfl
theorem dX11_game_9 : decode cX11_game 9 = .ok (.aload_n 0, 1) := dk_get dk_d02_296 5 rfl
theorem dX11_game_10 : decode cX11_game 10 = .ok (.getfield 61, 3) := dk_get dk_d02_296 6 rfl
theorem dX11_game_13 : decode cX11_game 13 = .ok (.iload_n 1, 1) := dk_get dk_d02_296 7 rfl
theorem dX11_game_14 : decode cX11_game 14 = .ok (.invokevirtual 295, 3) := dk_get dk_d02_296 8 rfl
theorem dX11_game_17 : decode cX11_game 17 = .ok (.ifCond .ne 6, 3) := dk_get dk_d02_296 9 rfl
theorem dX11_game_20 : decode cX11_game 20 = .ok (.bipush (-10), 2) := dk_get dk_d02_296 10 rfl
theorem dX11_game_22 : decode cX11_game 22 = .ok (.ireturn, 1) := dk_get dk_d02_296 11 rfl
theorem dX11_game_23 : decode cX11_game 23 = .ok (.iload_n 2, 1) := dk_get dk_d02_296 12 rfl
theorem dX11_game_24 : decode cX11_game 24 = .ok (.ifCond .ne 13, 3) := dk_get dk_d02_296 13 rfl
theorem dX11_game_27 : decode cX11_game 27 = .ok (.aload_n 0, 1) := dk_get dk_d02_296 14 rfl
theorem dX11_game_28 : decode cX11_game 28 = .ok (.getfield 61, 3) := dk_get dk_d02_296 15 rfl
theorem dX11_game_31 : decode cX11_game 31 = .ok (.invokevirtual 298, 3) := dk_get dk_d02_296 16 rfl
theorem dX11_game_34 : decode cX11_game 34 = .ok (.goto 10, 3) := dk_get dk_d02_296 17 rfl
theorem dX11_game_37 : decode cX11_game 37 = .ok (.aload_n 0, 1) := dk_get dk_d02_296 18 rfl
theorem dX11_game_38 : decode cX11_game 38 = .ok (.getfield 61, 3) := dk_get dk_d02_296 19 rfl
theorem dX11_game_41 : decode cX11_game 41 = .ok (.invokevirtual 301, 3) := dk_get dk_d02_296 20 rfl
theorem dX11_game_44 : decode cX11_game 44 = .ok (.ireturn, 1) := dk_get dk_d02_296 21 rfl
theorem dk_d02_297 : dkc cX11_undo [(0, .aload_n 0, 1), (1, .getfield 26, 3), (4, .aload_n 0, 1), (5, .getfield 12, 3), (8, .getfield 67, 3), (11, .invokevirtual 304, 3), (14, .ireturn, 1)] = true := by decide +kernel
theorem dX11_undo_0 : decode cX11_undo 0 = .ok (.aload_n 0, 1) := dk_get dk_d02_297 0 rfl
theorem dX11_undo_1 : decode cX11_undo 1 = .ok (.getfield 26, 3) := dk_get dk_d02_297 1 rfl
theorem dX11_undo_4 : decode cX11_undo 4 = .ok (.aload_n 0, 1) := dk_get dk_d02_297 2 rfl
theorem dX11_undo_5 : decode cX11_undo 5 = .ok (.getfield 12, 3) := dk_get dk_d02_297 3 rfl
theorem dX11_undo_8 : decode cX11_undo 8 = .ok (.getfield 67, 3) := dk_get dk_d02_297 4 rfl
theorem dX11_undo_11 : decode cX11_undo 11 = .ok (.invokevirtual 304, 3) := dk_get dk_d02_297 5 rfl
theorem dX11_undo_14 : decode cX11_undo 14 = .ok (.ireturn, 1) := dk_get dk_d02_297 6 rfl
theorem dk_d02_298 : dkc cX11_image [(0, .iload_n 1, 1), (1, .ifCond .eq 21, 3), (4, .aload_n 0, 1), (5, .getfield 16, 3), (8, .aload_n 0, 1), (9, .getfield 12, 3), (12, .invokevirtual 308, 3), (15, .aload_n 0, 1), (16, .iconst 1, 1), (17, .putfield 19, 3), (20, .iconst 1, 1), (21, .ireturn, 1), (22, .aload_n 0, 1), (23, .getfield 19, 3), (26, .ifCond .eq 21, 3), (29, .aload_n 0, 1), (30, .getfield 12, 3), (33, .aload_n 0, 1), (34, .getfield 16, 3), (37, .invokevirtual 308, 3), (40, .aload_n 0, 1), (41, .getfield 26, 3), (44, .invokevirtual 92, 3), (47, .aload_n 0, 1), (48, .getfield 19, 3)] = true := by decide +kernel
theorem dX11_image_0 : decode cX11_image 0 = .ok (.iload_n 1, 1) := dk_get dk_d02_298 0 rfl
theorem dX11_image_1 : decode cX11_image 1 = .ok (.ifCond .eq 21, 3) := dk_get dk_d02_298 1 rfl
theorem dX11_image_4 : decode cX11_image 4 = .ok (.aload_n 0, 1) := dk_get dk_d02_298 2 rfl
theorem dX11_image_5 : decode cX11_image 5 = .ok (.getfield 16, 3) := dk_get dk_d02_298 3 rfl
theorem dX11_image_8 : decode cX11_image 8 = .ok (.aload_n 0, 1) := dk_get dk_d02_298 4 rfl
theorem dX11_image_9 : decode cX11_image 9 = .ok (.getfield 12, 3) := dk_get dk_d02_298 5 rfl
theorem dX11_image_12 : decode cX11_image 12 = .ok (.invokevirtual 308, 3) := dk_get dk_d02_298 6 rfl
theorem dX11_image_15 : decode cX11_image 15 = .ok (.aload_n 0, 1) := dk_get dk_d02_298 7 rfl
theorem dX11_image_16 : decode cX11_image 16 = .ok (.iconst 1, 1) := dk_get dk_d02_298 8 rfl
theorem dX11_image_17 : decode cX11_image 17 = .ok (.putfield 19, 3) := dk_get dk_d02_298 9 rfl
theorem dX11_image_20 : decode cX11_image 20 = .ok (.iconst 1, 1) := dk_get dk_d02_298 10 rfl
theorem dX11_image_21 : decode cX11_image 21 = .ok (.ireturn, 1) := dk_get dk_d02_298 11 rfl
theorem dX11_image_22 : decode cX11_image 22 = .ok (.aload_n 0, 1) := dk_get dk_d02_298 12 rfl
theorem dX11_image_23 : decode cX11_image 23 = .ok (.getfield 19, 3) := dk_get dk_d02_298 13 rfl
theorem dX11_image_26 : decode cX11_image 26 = .ok (.ifCond .eq 21, 3) := dk_get dk_d02_298 14 rfl
theorem dX11_image_29 : decode cX11_image 29 = .ok (.aload_n 0, 1) := dk_get dk_d02_298 15 rfl
theorem dX11_image_30 : decode cX11_image 30 = .ok (.getfield 12, 3) := dk_get dk_d02_298 16 rfl
theorem dX11_image_33 : decode cX11_image 33 = .ok (.aload_n 0, 1) := dk_get dk_d02_298 17 rfl
theorem dX11_image_34 : decode cX11_image 34 = .ok (.getfield 16, 3) := dk_get dk_d02_298 18 rfl
theorem dX11_image_37 : decode cX11_image 37 = .ok (.invokevirtual 308, 3) := dk_get dk_d02_298 19 rfl
theorem dX11_image_40 : decode cX11_image 40 = .ok (.aload_n 0, 1) := dk_get dk_d02_298 20 rfl
theorem dX11_image_41 : decode cX11_image 41 = .ok (.getfield 26, 3) := dk_get dk_d02_298 21 rfl
theorem dX11_image_44 : decode cX11_image 44 = .ok (.invokevirtual 92, 3) := dk_get dk_d02_298 22 rfl
theorem dX11_image_47 : decode cX11_image 47 = .ok (.aload_n 0, 1) := dk_get dk_d02_298 23 rfl
theorem dX11_image_48 : decode cX11_image 48 = .ok (.getfield 19, 3) := dk_get dk_d02_298 24 rfl
theorem dk_d02_299 : dkc cX11_image [(51, .ireturn, 1)] = true := by decide +kernel
theorem dX11_image_51 : decode cX11_image 51 = .ok (.ireturn, 1) := dk_get dk_d02_299 0 rfl
theorem dk_d02_300 : dkc cX11_look [(0, .iload_n 1, 1), (1, .bipush 9, 2), (3, .if_icmp .lt 21, 3), (6, .iload_n 1, 1), (7, .bipush 12, 2), (9, .if_icmp .gt 15, 3), (12, .aload_n 0, 1), (13, .getfield 12, 3), (16, .iload_n 1, 1), (17, .bipush 9, 2), (19, .isub, 1), (20, .invokevirtual 312, 3), (23, .ireturn, 1), (24, .iload_n 1, 1), (25, .tableswitch 178 0 13 #[71, 82, 93, 104, 115, 126, 137, 148, 159, 178, 178, 178, 178, 170], 71), (96, .aload_n 0, 1), (97, .getfield 12, 3), (100, .getfield 67, 3), (103, .getfield 99, 3), (106, .ireturn, 1), (107, .aload_n 0, 1), (108, .getfield 12, 3), (111, .getfield 67, 3), (114, .invokevirtual 204, 3), (117, .ireturn, 1)] = true := by decide +kernel
theorem dX11_look_0 : decode cX11_look 0 = .ok (.iload_n 1, 1) := dk_get dk_d02_300 0 rfl
theorem dX11_look_1 : decode cX11_look 1 = .ok (.bipush 9, 2) := dk_get dk_d02_300 1 rfl
theorem dX11_look_3 : decode cX11_look 3 = .ok (.if_icmp .lt 21, 3) := dk_get dk_d02_300 2 rfl
theorem dX11_look_6 : decode cX11_look 6 = .ok (.iload_n 1, 1) := dk_get dk_d02_300 3 rfl
theorem dX11_look_7 : decode cX11_look 7 = .ok (.bipush 12, 2) := dk_get dk_d02_300 4 rfl
theorem dX11_look_9 : decode cX11_look 9 = .ok (.if_icmp .gt 15, 3) := dk_get dk_d02_300 5 rfl
theorem dX11_look_12 : decode cX11_look 12 = .ok (.aload_n 0, 1) := dk_get dk_d02_300 6 rfl
theorem dX11_look_13 : decode cX11_look 13 = .ok (.getfield 12, 3) := dk_get dk_d02_300 7 rfl
theorem dX11_look_16 : decode cX11_look 16 = .ok (.iload_n 1, 1) := dk_get dk_d02_300 8 rfl
theorem dX11_look_17 : decode cX11_look 17 = .ok (.bipush 9, 2) := dk_get dk_d02_300 9 rfl
theorem dX11_look_19 : decode cX11_look 19 = .ok (.isub, 1) := dk_get dk_d02_300 10 rfl
theorem dX11_look_20 : decode cX11_look 20 = .ok (.invokevirtual 312, 3) := dk_get dk_d02_300 11 rfl
theorem dX11_look_23 : decode cX11_look 23 = .ok (.ireturn, 1) := dk_get dk_d02_300 12 rfl
theorem dX11_look_24 : decode cX11_look 24 = .ok (.iload_n 1, 1) := dk_get dk_d02_300 13 rfl
theorem dX11_look_25 : decode cX11_look 25 = .ok (.tableswitch 178 0 13 #[71, 82, 93, 104, 115, 126, 137, 148, 159, 178, 178, 178, 178, 170], 71) := dk_get dk_d02_300 14 rfl
theorem dX11_look_96 : decode cX11_look 96 = .ok (.aload_n 0, 1) := dk_get dk_d02_300 15 rfl
theorem dX11_look_97 : decode cX11_look 97 = .ok (.getfield 12, 3) := dk_get dk_d02_300 16 rfl
theorem dX11_look_100 : decode cX11_look 100 = .ok (.getfield 67, 3) := dk_get dk_d02_300 17 rfl
theorem dX11_look_103 : decode cX11_look 103 = .ok (.getfield 99, 3) := dk_get dk_d02_300 18 rfl
theorem dX11_look_106 : decode cX11_look 106 = .ok (.ireturn, 1) := dk_get dk_d02_300 19 rfl
theorem dX11_look_107 : decode cX11_look 107 = .ok (.aload_n 0, 1) := dk_get dk_d02_300 20 rfl
theorem dX11_look_108 : decode cX11_look 108 = .ok (.getfield 12, 3) := dk_get dk_d02_300 21 rfl
theorem dX11_look_111 : decode cX11_look 111 = .ok (.getfield 67, 3) := dk_get dk_d02_300 22 rfl
theorem dX11_look_114 : decode cX11_look 114 = .ok (.invokevirtual 204, 3) := dk_get dk_d02_300 23 rfl
theorem dX11_look_117 : decode cX11_look 117 = .ok (.ireturn, 1) := dk_get dk_d02_300 24 rfl
theorem dk_d02_301 : dkc cX11_look [(118, .aload_n 0, 1), (119, .getfield 12, 3), (122, .getfield 67, 3), (125, .getfield 106, 3), (128, .ireturn, 1), (129, .aload_n 0, 1), (130, .getfield 12, 3), (133, .getfield 67, 3), (136, .getfield 140, 3), (139, .ireturn, 1), (140, .aload_n 0, 1), (141, .getfield 12, 3), (144, .getfield 67, 3), (147, .getfield 137, 3), (150, .ireturn, 1), (151, .aload_n 0, 1), (152, .getfield 12, 3), (155, .getfield 67, 3), (158, .getfield 201, 3), (161, .ireturn, 1), (162, .aload_n 0, 1), (163, .getfield 12, 3), (166, .getfield 67, 3), (169, .getfield 315, 3), (172, .ireturn, 1)] = true := by decide +kernel
theorem dX11_look_118 : decode cX11_look 118 = .ok (.aload_n 0, 1) := dk_get dk_d02_301 0 rfl
theorem dX11_look_119 : decode cX11_look 119 = .ok (.getfield 12, 3) := dk_get dk_d02_301 1 rfl
theorem dX11_look_122 : decode cX11_look 122 = .ok (.getfield 67, 3) := dk_get dk_d02_301 2 rfl
theorem dX11_look_125 : decode cX11_look 125 = .ok (.getfield 106, 3) := dk_get dk_d02_301 3 rfl
theorem dX11_look_128 : decode cX11_look 128 = .ok (.ireturn, 1) := dk_get dk_d02_301 4 rfl
theorem dX11_look_129 : decode cX11_look 129 = .ok (.aload_n 0, 1) := dk_get dk_d02_301 5 rfl
theorem dX11_look_130 : decode cX11_look 130 = .ok (.getfield 12, 3) := dk_get dk_d02_301 6 rfl
theorem dX11_look_133 : decode cX11_look 133 = .ok (.getfield 67, 3) := dk_get dk_d02_301 7 rfl
theorem dX11_look_136 : decode cX11_look 136 = .ok (.getfield 140, 3) := dk_get dk_d02_301 8 rfl
theorem dX11_look_139 : decode cX11_look 139 = .ok (.ireturn, 1) := dk_get dk_d02_301 9 rfl
theorem dX11_look_140 : decode cX11_look 140 = .ok (.aload_n 0, 1) := dk_get dk_d02_301 10 rfl
theorem dX11_look_141 : decode cX11_look 141 = .ok (.getfield 12, 3) := dk_get dk_d02_301 11 rfl
theorem dX11_look_144 : decode cX11_look 144 = .ok (.getfield 67, 3) := dk_get dk_d02_301 12 rfl
theorem dX11_look_147 : decode cX11_look 147 = .ok (.getfield 137, 3) := dk_get dk_d02_301 13 rfl
theorem dX11_look_150 : decode cX11_look 150 = .ok (.ireturn, 1) := dk_get dk_d02_301 14 rfl
theorem dX11_look_151 : decode cX11_look 151 = .ok (.aload_n 0, 1) := dk_get dk_d02_301 15 rfl
theorem dX11_look_152 : decode cX11_look 152 = .ok (.getfield 12, 3) := dk_get dk_d02_301 16 rfl
theorem dX11_look_155 : decode cX11_look 155 = .ok (.getfield 67, 3) := dk_get dk_d02_301 17 rfl
theorem dX11_look_158 : decode cX11_look 158 = .ok (.getfield 201, 3) := dk_get dk_d02_301 18 rfl
theorem dX11_look_161 : decode cX11_look 161 = .ok (.ireturn, 1) := dk_get dk_d02_301 19 rfl
theorem dX11_look_162 : decode cX11_look 162 = .ok (.aload_n 0, 1) := dk_get dk_d02_301 20 rfl
theorem dX11_look_163 : decode cX11_look 163 = .ok (.getfield 12, 3) := dk_get dk_d02_301 21 rfl
theorem dX11_look_166 : decode cX11_look 166 = .ok (.getfield 67, 3) := dk_get dk_d02_301 22 rfl
theorem dX11_look_169 : decode cX11_look 169 = .ok (.getfield 315, 3) := dk_get dk_d02_301 23 rfl
theorem dX11_look_172 : decode cX11_look 172 = .ok (.ireturn, 1) := dk_get dk_d02_301 24 rfl
theorem dk_d02_302 : dkc cX11_look [(173, .aload_n 0, 1), (174, .getfield 12, 3), (177, .getfield 67, 3), (180, .getfield 191, 3), (183, .ireturn, 1), (184, .aload_n 0, 1), (185, .getfield 12, 3), (188, .getfield 67, 3), (191, .getfield 88, 3), (194, .ireturn, 1), (195, .aload_n 0, 1), (196, .getfield 26, 3), (199, .getfield 318, 3), (202, .ireturn, 1), (203, .iconst (-1), 1), (204, .ireturn, 1)] = true := by decide +kernel
theorem dX11_look_173 : decode cX11_look 173 = .ok (.aload_n 0, 1) := dk_get dk_d02_302 0 rfl
theorem dX11_look_174 : decode cX11_look 174 = .ok (.getfield 12, 3) := dk_get dk_d02_302 1 rfl
theorem dX11_look_177 : decode cX11_look 177 = .ok (.getfield 67, 3) := dk_get dk_d02_302 2 rfl
theorem dX11_look_180 : decode cX11_look 180 = .ok (.getfield 191, 3) := dk_get dk_d02_302 3 rfl
theorem dX11_look_183 : decode cX11_look 183 = .ok (.ireturn, 1) := dk_get dk_d02_302 4 rfl
theorem dX11_look_184 : decode cX11_look 184 = .ok (.aload_n 0, 1) := dk_get dk_d02_302 5 rfl
theorem dX11_look_185 : decode cX11_look 185 = .ok (.getfield 12, 3) := dk_get dk_d02_302 6 rfl
theorem dX11_look_188 : decode cX11_look 188 = .ok (.getfield 67, 3) := dk_get dk_d02_302 7 rfl
theorem dX11_look_191 : decode cX11_look 191 = .ok (.getfield 88, 3) := dk_get dk_d02_302 8 rfl
theorem dX11_look_194 : decode cX11_look 194 = .ok (.ireturn, 1) := dk_get dk_d02_302 9 rfl
theorem dX11_look_195 : decode cX11_look 195 = .ok (.aload_n 0, 1) := dk_get dk_d02_302 10 rfl
theorem dX11_look_196 : decode cX11_look 196 = .ok (.getfield 26, 3) := dk_get dk_d02_302 11 rfl
theorem dX11_look_199 : decode cX11_look 199 = .ok (.getfield 318, 3) := dk_get dk_d02_302 12 rfl
theorem dX11_look_202 : decode cX11_look 202 = .ok (.ireturn, 1) := dk_get dk_d02_302 13 rfl
theorem dX11_look_203 : decode cX11_look 203 = .ok (.iconst (-1), 1) := dk_get dk_d02_302 14 rfl
theorem dX11_look_204 : decode cX11_look 204 = .ok (.ireturn, 1) := dk_get dk_d02_302 15 rfl
theorem dk_d02_303 : dkc cX11_traitCan [(0, .iload_n 0, 1), (1, .tableswitch 96 0 3 #[31, 48, 64, 80], 31), (32, .iload_n 1, 1), (33, .ifCond .lt 14, 3), (36, .iload_n 1, 1), (37, .sipush 255, 3), (40, .if_icmp .gt 7, 3), (43, .iconst 1, 1), (44, .goto 4, 3), (47, .iconst 0, 1), (48, .ireturn, 1), (49, .iload_n 1, 1), (50, .iconst (-1), 1), (51, .if_icmp .lt 12, 3), (54, .iload_n 1, 1), (55, .iconst 1, 1), (56, .if_icmp .gt 7, 3), (59, .iconst 1, 1), (60, .goto 4, 3), (63, .iconst 0, 1), (64, .ireturn, 1), (65, .iload_n 1, 1), (66, .ifCond .lt 13, 3), (69, .iload_n 1, 1), (70, .bipush 12, 2)] = true := by decide +kernel
theorem dX11_traitCan_0 : decode cX11_traitCan 0 = .ok (.iload_n 0, 1) := dk_get dk_d02_303 0 rfl
theorem dX11_traitCan_1 : decode cX11_traitCan 1 = .ok (.tableswitch 96 0 3 #[31, 48, 64, 80], 31) := dk_get dk_d02_303 1 rfl
theorem dX11_traitCan_32 : decode cX11_traitCan 32 = .ok (.iload_n 1, 1) := dk_get dk_d02_303 2 rfl
theorem dX11_traitCan_33 : decode cX11_traitCan 33 = .ok (.ifCond .lt 14, 3) := dk_get dk_d02_303 3 rfl
theorem dX11_traitCan_36 : decode cX11_traitCan 36 = .ok (.iload_n 1, 1) := dk_get dk_d02_303 4 rfl
theorem dX11_traitCan_37 : decode cX11_traitCan 37 = .ok (.sipush 255, 3) := dk_get dk_d02_303 5 rfl
theorem dX11_traitCan_40 : decode cX11_traitCan 40 = .ok (.if_icmp .gt 7, 3) := dk_get dk_d02_303 6 rfl
theorem dX11_traitCan_43 : decode cX11_traitCan 43 = .ok (.iconst 1, 1) := dk_get dk_d02_303 7 rfl
theorem dX11_traitCan_44 : decode cX11_traitCan 44 = .ok (.goto 4, 3) := dk_get dk_d02_303 8 rfl
theorem dX11_traitCan_47 : decode cX11_traitCan 47 = .ok (.iconst 0, 1) := dk_get dk_d02_303 9 rfl
theorem dX11_traitCan_48 : decode cX11_traitCan 48 = .ok (.ireturn, 1) := dk_get dk_d02_303 10 rfl
theorem dX11_traitCan_49 : decode cX11_traitCan 49 = .ok (.iload_n 1, 1) := dk_get dk_d02_303 11 rfl
theorem dX11_traitCan_50 : decode cX11_traitCan 50 = .ok (.iconst (-1), 1) := dk_get dk_d02_303 12 rfl
theorem dX11_traitCan_51 : decode cX11_traitCan 51 = .ok (.if_icmp .lt 12, 3) := dk_get dk_d02_303 13 rfl
theorem dX11_traitCan_54 : decode cX11_traitCan 54 = .ok (.iload_n 1, 1) := dk_get dk_d02_303 14 rfl
theorem dX11_traitCan_55 : decode cX11_traitCan 55 = .ok (.iconst 1, 1) := dk_get dk_d02_303 15 rfl
theorem dX11_traitCan_56 : decode cX11_traitCan 56 = .ok (.if_icmp .gt 7, 3) := dk_get dk_d02_303 16 rfl
theorem dX11_traitCan_59 : decode cX11_traitCan 59 = .ok (.iconst 1, 1) := dk_get dk_d02_303 17 rfl
theorem dX11_traitCan_60 : decode cX11_traitCan 60 = .ok (.goto 4, 3) := dk_get dk_d02_303 18 rfl
theorem dX11_traitCan_63 : decode cX11_traitCan 63 = .ok (.iconst 0, 1) := dk_get dk_d02_303 19 rfl
theorem dX11_traitCan_64 : decode cX11_traitCan 64 = .ok (.ireturn, 1) := dk_get dk_d02_303 20 rfl
theorem dX11_traitCan_65 : decode cX11_traitCan 65 = .ok (.iload_n 1, 1) := dk_get dk_d02_303 21 rfl
theorem dX11_traitCan_66 : decode cX11_traitCan 66 = .ok (.ifCond .lt 13, 3) := dk_get dk_d02_303 22 rfl
theorem dX11_traitCan_69 : decode cX11_traitCan 69 = .ok (.iload_n 1, 1) := dk_get dk_d02_303 23 rfl
theorem dX11_traitCan_70 : decode cX11_traitCan 70 = .ok (.bipush 12, 2) := dk_get dk_d02_303 24 rfl
theorem dk_d02_304 : dkc cX11_traitCan [(72, .if_icmp .ge 7, 3), (75, .iconst 1, 1), (76, .goto 4, 3), (79, .iconst 0, 1), (80, .ireturn, 1), (81, .iload_n 1, 1), (82, .ifCond .lt 13, 3), (85, .iload_n 1, 1), (86, .bipush 9, 2), (88, .if_icmp .gt 7, 3), (91, .iconst 1, 1), (92, .goto 4, 3), (95, .iconst 0, 1), (96, .ireturn, 1), (97, .iconst 0, 1), (98, .ireturn, 1)] = true := by decide +kernel
theorem dX11_traitCan_72 : decode cX11_traitCan 72 = .ok (.if_icmp .ge 7, 3) := dk_get dk_d02_304 0 rfl
theorem dX11_traitCan_75 : decode cX11_traitCan 75 = .ok (.iconst 1, 1) := dk_get dk_d02_304 1 rfl
theorem dX11_traitCan_76 : decode cX11_traitCan 76 = .ok (.goto 4, 3) := dk_get dk_d02_304 2 rfl
theorem dX11_traitCan_79 : decode cX11_traitCan 79 = .ok (.iconst 0, 1) := dk_get dk_d02_304 3 rfl
theorem dX11_traitCan_80 : decode cX11_traitCan 80 = .ok (.ireturn, 1) := dk_get dk_d02_304 4 rfl
theorem dX11_traitCan_81 : decode cX11_traitCan 81 = .ok (.iload_n 1, 1) := dk_get dk_d02_304 5 rfl
theorem dX11_traitCan_82 : decode cX11_traitCan 82 = .ok (.ifCond .lt 13, 3) := dk_get dk_d02_304 6 rfl
theorem dX11_traitCan_85 : decode cX11_traitCan 85 = .ok (.iload_n 1, 1) := dk_get dk_d02_304 7 rfl
theorem dX11_traitCan_86 : decode cX11_traitCan 86 = .ok (.bipush 9, 2) := dk_get dk_d02_304 8 rfl
theorem dX11_traitCan_88 : decode cX11_traitCan 88 = .ok (.if_icmp .gt 7, 3) := dk_get dk_d02_304 9 rfl
theorem dX11_traitCan_91 : decode cX11_traitCan 91 = .ok (.iconst 1, 1) := dk_get dk_d02_304 10 rfl
theorem dX11_traitCan_92 : decode cX11_traitCan 92 = .ok (.goto 4, 3) := dk_get dk_d02_304 11 rfl
theorem dX11_traitCan_95 : decode cX11_traitCan 95 = .ok (.iconst 0, 1) := dk_get dk_d02_304 12 rfl
theorem dX11_traitCan_96 : decode cX11_traitCan 96 = .ok (.ireturn, 1) := dk_get dk_d02_304 13 rfl
theorem dX11_traitCan_97 : decode cX11_traitCan 97 = .ok (.iconst 0, 1) := dk_get dk_d02_304 14 rfl
theorem dX11_traitCan_98 : decode cX11_traitCan 98 = .ok (.ireturn, 1) := dk_get dk_d02_304 15 rfl
theorem dk_d02_305 : dkc cX11_unlikeBills [(0, .iload_n 0, 1), (1, .ifCond .lt 28, 3), (4, .iload_n 0, 1), (5, .bipush 8, 2), (7, .if_icmp .ge 22, 3), (10, .iload_n 1, 1), (11, .ifCond .lt 18, 3), (14, .iload_n 1, 1), (15, .bipush 8, 2), (17, .if_icmp .ge 12, 3), (20, .iload_n 0, 1), (21, .iload_n 1, 1), (22, .if_icmp .eq 7, 3), (25, .iconst 1, 1), (26, .goto 4, 3), (29, .iconst 0, 1), (30, .ireturn, 1)] = true := by decide +kernel
theorem dX11_unlikeBills_0 : decode cX11_unlikeBills 0 = .ok (.iload_n 0, 1) := dk_get dk_d02_305 0 rfl
theorem dX11_unlikeBills_1 : decode cX11_unlikeBills 1 = .ok (.ifCond .lt 28, 3) := dk_get dk_d02_305 1 rfl
theorem dX11_unlikeBills_4 : decode cX11_unlikeBills 4 = .ok (.iload_n 0, 1) := dk_get dk_d02_305 2 rfl
theorem dX11_unlikeBills_5 : decode cX11_unlikeBills 5 = .ok (.bipush 8, 2) := dk_get dk_d02_305 3 rfl
theorem dX11_unlikeBills_7 : decode cX11_unlikeBills 7 = .ok (.if_icmp .ge 22, 3) := dk_get dk_d02_305 4 rfl
theorem dX11_unlikeBills_10 : decode cX11_unlikeBills 10 = .ok (.iload_n 1, 1) := dk_get dk_d02_305 5 rfl
theorem dX11_unlikeBills_11 : decode cX11_unlikeBills 11 = .ok (.ifCond .lt 18, 3) := dk_get dk_d02_305 6 rfl
theorem dX11_unlikeBills_14 : decode cX11_unlikeBills 14 = .ok (.iload_n 1, 1) := dk_get dk_d02_305 7 rfl
theorem dX11_unlikeBills_15 : decode cX11_unlikeBills 15 = .ok (.bipush 8, 2) := dk_get dk_d02_305 8 rfl
theorem dX11_unlikeBills_17 : decode cX11_unlikeBills 17 = .ok (.if_icmp .ge 12, 3) := dk_get dk_d02_305 9 rfl
theorem dX11_unlikeBills_20 : decode cX11_unlikeBills 20 = .ok (.iload_n 0, 1) := dk_get dk_d02_305 10 rfl
theorem dX11_unlikeBills_21 : decode cX11_unlikeBills 21 = .ok (.iload_n 1, 1) := dk_get dk_d02_305 11 rfl
theorem dX11_unlikeBills_22 : decode cX11_unlikeBills 22 = .ok (.if_icmp .eq 7, 3) := dk_get dk_d02_305 12 rfl
theorem dX11_unlikeBills_25 : decode cX11_unlikeBills 25 = .ok (.iconst 1, 1) := dk_get dk_d02_305 13 rfl
theorem dX11_unlikeBills_26 : decode cX11_unlikeBills 26 = .ok (.goto 4, 3) := dk_get dk_d02_305 14 rfl
theorem dX11_unlikeBills_29 : decode cX11_unlikeBills 29 = .ok (.iconst 0, 1) := dk_get dk_d02_305 15 rfl
theorem dX11_unlikeBills_30 : decode cX11_unlikeBills 30 = .ok (.ireturn, 1) := dk_get dk_d02_305 16 rfl
theorem dk_d02_306 : dkc cX11_cellAt [(0, .iload_n 0, 1), (1, .ifCond .lt 23, 3), (4, .iload_n 0, 1), (5, .bipush 12, 2), (7, .if_icmp .ge 17, 3), (10, .iload_n 1, 1), (11, .ifCond .lt 13, 3), (14, .iload_n 1, 1), (15, .bipush 12, 2), (17, .if_icmp .ge 7, 3), (20, .iconst 1, 1), (21, .goto 4, 3), (24, .iconst 0, 1), (25, .istore_n 2, 1), (26, .iload_n 2, 1), (27, .ifCond .eq 12, 3), (30, .iload_n 0, 1), (31, .bipush 12, 2), (33, .imul, 1), (34, .iload_n 1, 1), (35, .iadd, 1), (36, .goto 4, 3), (39, .iconst (-1), 1), (40, .ireturn, 1)] = true := by decide +kernel
theorem dX11_cellAt_0 : decode cX11_cellAt 0 = .ok (.iload_n 0, 1) := dk_get dk_d02_306 0 rfl
theorem dX11_cellAt_1 : decode cX11_cellAt 1 = .ok (.ifCond .lt 23, 3) := dk_get dk_d02_306 1 rfl
theorem dX11_cellAt_4 : decode cX11_cellAt 4 = .ok (.iload_n 0, 1) := dk_get dk_d02_306 2 rfl
theorem dX11_cellAt_5 : decode cX11_cellAt 5 = .ok (.bipush 12, 2) := dk_get dk_d02_306 3 rfl
theorem dX11_cellAt_7 : decode cX11_cellAt 7 = .ok (.if_icmp .ge 17, 3) := dk_get dk_d02_306 4 rfl
theorem dX11_cellAt_10 : decode cX11_cellAt 10 = .ok (.iload_n 1, 1) := dk_get dk_d02_306 5 rfl
theorem dX11_cellAt_11 : decode cX11_cellAt 11 = .ok (.ifCond .lt 13, 3) := dk_get dk_d02_306 6 rfl
theorem dX11_cellAt_14 : decode cX11_cellAt 14 = .ok (.iload_n 1, 1) := dk_get dk_d02_306 7 rfl
theorem dX11_cellAt_15 : decode cX11_cellAt 15 = .ok (.bipush 12, 2) := dk_get dk_d02_306 8 rfl
theorem dX11_cellAt_17 : decode cX11_cellAt 17 = .ok (.if_icmp .ge 7, 3) := dk_get dk_d02_306 9 rfl
theorem dX11_cellAt_20 : decode cX11_cellAt 20 = .ok (.iconst 1, 1) := dk_get dk_d02_306 10 rfl
theorem dX11_cellAt_21 : decode cX11_cellAt 21 = .ok (.goto 4, 3) := dk_get dk_d02_306 11 rfl
theorem dX11_cellAt_24 : decode cX11_cellAt 24 = .ok (.iconst 0, 1) := dk_get dk_d02_306 12 rfl
theorem dX11_cellAt_25 : decode cX11_cellAt 25 = .ok (.istore_n 2, 1) := dk_get dk_d02_306 13 rfl
theorem dX11_cellAt_26 : decode cX11_cellAt 26 = .ok (.iload_n 2, 1) := dk_get dk_d02_306 14 rfl
theorem dX11_cellAt_27 : decode cX11_cellAt 27 = .ok (.ifCond .eq 12, 3) := dk_get dk_d02_306 15 rfl
theorem dX11_cellAt_30 : decode cX11_cellAt 30 = .ok (.iload_n 0, 1) := dk_get dk_d02_306 16 rfl
theorem dX11_cellAt_31 : decode cX11_cellAt 31 = .ok (.bipush 12, 2) := dk_get dk_d02_306 17 rfl
theorem dX11_cellAt_33 : decode cX11_cellAt 33 = .ok (.imul, 1) := dk_get dk_d02_306 18 rfl
theorem dX11_cellAt_34 : decode cX11_cellAt 34 = .ok (.iload_n 1, 1) := dk_get dk_d02_306 19 rfl
theorem dX11_cellAt_35 : decode cX11_cellAt 35 = .ok (.iadd, 1) := dk_get dk_d02_306 20 rfl
theorem dX11_cellAt_36 : decode cX11_cellAt 36 = .ok (.goto 4, 3) := dk_get dk_d02_306 21 rfl
theorem dX11_cellAt_39 : decode cX11_cellAt 39 = .ok (.iconst (-1), 1) := dk_get dk_d02_306 22 rfl
theorem dX11_cellAt_40 : decode cX11_cellAt 40 = .ok (.ireturn, 1) := dk_get dk_d02_306 23 rfl
theorem dk_d02_307 : dkc cX12_init [(0, .aload_n 0, 1), (1, .invokespecial 1, 3), (4, .aload_n 0, 1), (5, .sipush 499, 3), (8, .newarray .int, 2), (10, .putfield 7, 3), (13, .aload_n 0, 1), (14, .sipush 2994, 3), (17, .newarray .int, 2), (19, .putfield 13, 3), (22, .aload_n 0, 1), (23, .sipush 499, 3), (26, .newarray .int, 2), (28, .putfield 16, 3), (31, .aload_n 0, 1), (32, .bipush 20, 2), (34, .newarray .int, 2), (36, .putfield 19, 3), (39, .aload_n 0, 1), (40, .bipush 20, 2), (42, .newarray .int, 2), (44, .putfield 22, 3), (47, .aload_n 0, 1), (48, .bipush 20, 2), (50, .newarray .int, 2)] = true := by decide +kernel
theorem dX12_init_0 : decode cX12_init 0 = .ok (.aload_n 0, 1) := dk_get dk_d02_307 0 rfl
theorem dX12_init_1 : decode cX12_init 1 = .ok (.invokespecial 1, 3) := dk_get dk_d02_307 1 rfl
theorem dX12_init_4 : decode cX12_init 4 = .ok (.aload_n 0, 1) := dk_get dk_d02_307 2 rfl
theorem dX12_init_5 : decode cX12_init 5 = .ok (.sipush 499, 3) := dk_get dk_d02_307 3 rfl
theorem dX12_init_8 : decode cX12_init 8 = .ok (.newarray .int, 2) := dk_get dk_d02_307 4 rfl
theorem dX12_init_10 : decode cX12_init 10 = .ok (.putfield 7, 3) := dk_get dk_d02_307 5 rfl
theorem dX12_init_13 : decode cX12_init 13 = .ok (.aload_n 0, 1) := dk_get dk_d02_307 6 rfl
theorem dX12_init_14 : decode cX12_init 14 = .ok (.sipush 2994, 3) := dk_get dk_d02_307 7 rfl
theorem dX12_init_17 : decode cX12_init 17 = .ok (.newarray .int, 2) := dk_get dk_d02_307 8 rfl
theorem dX12_init_19 : decode cX12_init 19 = .ok (.putfield 13, 3) := dk_get dk_d02_307 9 rfl
theorem dX12_init_22 : decode cX12_init 22 = .ok (.aload_n 0, 1) := dk_get dk_d02_307 10 rfl
theorem dX12_init_23 : decode cX12_init 23 = .ok (.sipush 499, 3) := dk_get dk_d02_307 11 rfl
theorem dX12_init_26 : decode cX12_init 26 = .ok (.newarray .int, 2) := dk_get dk_d02_307 12 rfl
theorem dX12_init_28 : decode cX12_init 28 = .ok (.putfield 16, 3) := dk_get dk_d02_307 13 rfl
theorem dX12_init_31 : decode cX12_init 31 = .ok (.aload_n 0, 1) := dk_get dk_d02_307 14 rfl
theorem dX12_init_32 : decode cX12_init 32 = .ok (.bipush 20, 2) := dk_get dk_d02_307 15 rfl
theorem dX12_init_34 : decode cX12_init 34 = .ok (.newarray .int, 2) := dk_get dk_d02_307 16 rfl
theorem dX12_init_36 : decode cX12_init 36 = .ok (.putfield 19, 3) := dk_get dk_d02_307 17 rfl
theorem dX12_init_39 : decode cX12_init 39 = .ok (.aload_n 0, 1) := dk_get dk_d02_307 18 rfl
theorem dX12_init_40 : decode cX12_init 40 = .ok (.bipush 20, 2) := dk_get dk_d02_307 19 rfl
theorem dX12_init_42 : decode cX12_init 42 = .ok (.newarray .int, 2) := dk_get dk_d02_307 20 rfl
theorem dX12_init_44 : decode cX12_init 44 = .ok (.putfield 22, 3) := dk_get dk_d02_307 21 rfl
theorem dX12_init_47 : decode cX12_init 47 = .ok (.aload_n 0, 1) := dk_get dk_d02_307 22 rfl
theorem dX12_init_48 : decode cX12_init 48 = .ok (.bipush 20, 2) := dk_get dk_d02_307 23 rfl
theorem dX12_init_50 : decode cX12_init 50 = .ok (.newarray .int, 2) := dk_get dk_d02_307 24 rfl
theorem dk_d02_308 : dkc cX12_init [(52, .putfield 25, 3), (55, .aload_n 0, 1), (56, .sipush 750, 3), (59, .newarray .int, 2), (61, .putfield 28, 3), (64, .aload_n 0, 1), (65, .sipush 400, 3), (68, .newarray .int, 2), (70, .putfield 31, 3), (73, .aload_n 0, 1), (74, .sipush 133, 3), (77, .newarray .int, 2), (79, .dup, 1), (80, .iconst 0, 1), (81, .bipush 32, 2), (83, .iastore, 1), (84, .dup, 1), (85, .iconst 1, 1), (86, .bipush 99, 2), (88, .iastore, 1), (89, .dup, 1), (90, .iconst 2, 1), (91, .bipush 111, 2), (93, .iastore, 1), (94, .dup, 1)] = true := by decide +kernel
theorem dX12_init_52 : decode cX12_init 52 = .ok (.putfield 25, 3) := dk_get dk_d02_308 0 rfl
theorem dX12_init_55 : decode cX12_init 55 = .ok (.aload_n 0, 1) := dk_get dk_d02_308 1 rfl
theorem dX12_init_56 : decode cX12_init 56 = .ok (.sipush 750, 3) := dk_get dk_d02_308 2 rfl
theorem dX12_init_59 : decode cX12_init 59 = .ok (.newarray .int, 2) := dk_get dk_d02_308 3 rfl
theorem dX12_init_61 : decode cX12_init 61 = .ok (.putfield 28, 3) := dk_get dk_d02_308 4 rfl
theorem dX12_init_64 : decode cX12_init 64 = .ok (.aload_n 0, 1) := dk_get dk_d02_308 5 rfl
theorem dX12_init_65 : decode cX12_init 65 = .ok (.sipush 400, 3) := dk_get dk_d02_308 6 rfl
theorem dX12_init_68 : decode cX12_init 68 = .ok (.newarray .int, 2) := dk_get dk_d02_308 7 rfl
theorem dX12_init_70 : decode cX12_init 70 = .ok (.putfield 31, 3) := dk_get dk_d02_308 8 rfl
theorem dX12_init_73 : decode cX12_init 73 = .ok (.aload_n 0, 1) := dk_get dk_d02_308 9 rfl
theorem dX12_init_74 : decode cX12_init 74 = .ok (.sipush 133, 3) := dk_get dk_d02_308 10 rfl
theorem dX12_init_77 : decode cX12_init 77 = .ok (.newarray .int, 2) := dk_get dk_d02_308 11 rfl
theorem dX12_init_79 : decode cX12_init 79 = .ok (.dup, 1) := dk_get dk_d02_308 12 rfl
theorem dX12_init_80 : decode cX12_init 80 = .ok (.iconst 0, 1) := dk_get dk_d02_308 13 rfl
theorem dX12_init_81 : decode cX12_init 81 = .ok (.bipush 32, 2) := dk_get dk_d02_308 14 rfl
theorem dX12_init_83 : decode cX12_init 83 = .ok (.iastore, 1) := dk_get dk_d02_308 15 rfl
theorem dX12_init_84 : decode cX12_init 84 = .ok (.dup, 1) := dk_get dk_d02_308 16 rfl
theorem dX12_init_85 : decode cX12_init 85 = .ok (.iconst 1, 1) := dk_get dk_d02_308 17 rfl
theorem dX12_init_86 : decode cX12_init 86 = .ok (.bipush 99, 2) := dk_get dk_d02_308 18 rfl
theorem dX12_init_88 : decode cX12_init 88 = .ok (.iastore, 1) := dk_get dk_d02_308 19 rfl
theorem dX12_init_89 : decode cX12_init 89 = .ok (.dup, 1) := dk_get dk_d02_308 20 rfl
theorem dX12_init_90 : decode cX12_init 90 = .ok (.iconst 2, 1) := dk_get dk_d02_308 21 rfl
theorem dX12_init_91 : decode cX12_init 91 = .ok (.bipush 111, 2) := dk_get dk_d02_308 22 rfl
theorem dX12_init_93 : decode cX12_init 93 = .ok (.iastore, 1) := dk_get dk_d02_308 23 rfl
theorem dX12_init_94 : decode cX12_init 94 = .ok (.dup, 1) := dk_get dk_d02_308 24 rfl
theorem dk_d02_309 : dkc cX12_init [(95, .iconst 3, 1), (96, .bipush 109, 2), (98, .iastore, 1), (99, .dup, 1), (100, .iconst 4, 1), (101, .bipush 101, 2), (103, .iastore, 1), (104, .dup, 1), (105, .iconst 5, 1), (106, .bipush 115, 2), (108, .iastore, 1), (109, .dup, 1), (110, .bipush 6, 2), (112, .bipush 32, 2), (114, .iastore, 1), (115, .dup, 1), (116, .bipush 7, 2), (118, .bipush 109, 2), (120, .iastore, 1), (121, .dup, 1), (122, .bipush 8, 2), (124, .bipush 101, 2), (126, .iastore, 1), (127, .dup, 1), (128, .bipush 9, 2)] = true := by decide +kernel
theorem dX12_init_95 : decode cX12_init 95 = .ok (.iconst 3, 1) := dk_get dk_d02_309 0 rfl
theorem dX12_init_96 : decode cX12_init 96 = .ok (.bipush 109, 2) := dk_get dk_d02_309 1 rfl
theorem dX12_init_98 : decode cX12_init 98 = .ok (.iastore, 1) := dk_get dk_d02_309 2 rfl
theorem dX12_init_99 : decode cX12_init 99 = .ok (.dup, 1) := dk_get dk_d02_309 3 rfl
theorem dX12_init_100 : decode cX12_init 100 = .ok (.iconst 4, 1) := dk_get dk_d02_309 4 rfl
theorem dX12_init_101 : decode cX12_init 101 = .ok (.bipush 101, 2) := dk_get dk_d02_309 5 rfl
theorem dX12_init_103 : decode cX12_init 103 = .ok (.iastore, 1) := dk_get dk_d02_309 6 rfl
theorem dX12_init_104 : decode cX12_init 104 = .ok (.dup, 1) := dk_get dk_d02_309 7 rfl
theorem dX12_init_105 : decode cX12_init 105 = .ok (.iconst 5, 1) := dk_get dk_d02_309 8 rfl
theorem dX12_init_106 : decode cX12_init 106 = .ok (.bipush 115, 2) := dk_get dk_d02_309 9 rfl
theorem dX12_init_108 : decode cX12_init 108 = .ok (.iastore, 1) := dk_get dk_d02_309 10 rfl
theorem dX12_init_109 : decode cX12_init 109 = .ok (.dup, 1) := dk_get dk_d02_309 11 rfl
theorem dX12_init_110 : decode cX12_init 110 = .ok (.bipush 6, 2) := dk_get dk_d02_309 12 rfl
theorem dX12_init_112 : decode cX12_init 112 = .ok (.bipush 32, 2) := dk_get dk_d02_309 13 rfl
theorem dX12_init_114 : decode cX12_init 114 = .ok (.iastore, 1) := dk_get dk_d02_309 14 rfl
theorem dX12_init_115 : decode cX12_init 115 = .ok (.dup, 1) := dk_get dk_d02_309 15 rfl
theorem dX12_init_116 : decode cX12_init 116 = .ok (.bipush 7, 2) := dk_get dk_d02_309 16 rfl
theorem dX12_init_118 : decode cX12_init 118 = .ok (.bipush 109, 2) := dk_get dk_d02_309 17 rfl
theorem dX12_init_120 : decode cX12_init 120 = .ok (.iastore, 1) := dk_get dk_d02_309 18 rfl
theorem dX12_init_121 : decode cX12_init 121 = .ok (.dup, 1) := dk_get dk_d02_309 19 rfl
theorem dX12_init_122 : decode cX12_init 122 = .ok (.bipush 8, 2) := dk_get dk_d02_309 20 rfl
theorem dX12_init_124 : decode cX12_init 124 = .ok (.bipush 101, 2) := dk_get dk_d02_309 21 rfl
theorem dX12_init_126 : decode cX12_init 126 = .ok (.iastore, 1) := dk_get dk_d02_309 22 rfl
theorem dX12_init_127 : decode cX12_init 127 = .ok (.dup, 1) := dk_get dk_d02_309 23 rfl
theorem dX12_init_128 : decode cX12_init 128 = .ok (.bipush 9, 2) := dk_get dk_d02_309 24 rfl
theorem dk_d02_310 : dkc cX12_init [(130, .bipush 108, 2), (132, .iastore, 1), (133, .dup, 1), (134, .bipush 10, 2), (136, .bipush 116, 2), (138, .iastore, 1), (139, .dup, 1), (140, .bipush 11, 2), (142, .bipush 115, 2), (144, .iastore, 1), (145, .dup, 1), (146, .bipush 12, 2), (148, .bipush 32, 2), (150, .iastore, 1), (151, .dup, 1), (152, .bipush 13, 2), (154, .bipush 119, 2), (156, .iastore, 1), (157, .dup, 1), (158, .bipush 14, 2), (160, .bipush 101, 2), (162, .iastore, 1), (163, .dup, 1), (164, .bipush 15, 2), (166, .bipush 105, 2)] = true := by decide +kernel
theorem dX12_init_130 : decode cX12_init 130 = .ok (.bipush 108, 2) := dk_get dk_d02_310 0 rfl
theorem dX12_init_132 : decode cX12_init 132 = .ok (.iastore, 1) := dk_get dk_d02_310 1 rfl
theorem dX12_init_133 : decode cX12_init 133 = .ok (.dup, 1) := dk_get dk_d02_310 2 rfl
theorem dX12_init_134 : decode cX12_init 134 = .ok (.bipush 10, 2) := dk_get dk_d02_310 3 rfl
theorem dX12_init_136 : decode cX12_init 136 = .ok (.bipush 116, 2) := dk_get dk_d02_310 4 rfl
theorem dX12_init_138 : decode cX12_init 138 = .ok (.iastore, 1) := dk_get dk_d02_310 5 rfl
theorem dX12_init_139 : decode cX12_init 139 = .ok (.dup, 1) := dk_get dk_d02_310 6 rfl
theorem dX12_init_140 : decode cX12_init 140 = .ok (.bipush 11, 2) := dk_get dk_d02_310 7 rfl
theorem dX12_init_142 : decode cX12_init 142 = .ok (.bipush 115, 2) := dk_get dk_d02_310 8 rfl
theorem dX12_init_144 : decode cX12_init 144 = .ok (.iastore, 1) := dk_get dk_d02_310 9 rfl
theorem dX12_init_145 : decode cX12_init 145 = .ok (.dup, 1) := dk_get dk_d02_310 10 rfl
theorem dX12_init_146 : decode cX12_init 146 = .ok (.bipush 12, 2) := dk_get dk_d02_310 11 rfl
theorem dX12_init_148 : decode cX12_init 148 = .ok (.bipush 32, 2) := dk_get dk_d02_310 12 rfl
theorem dX12_init_150 : decode cX12_init 150 = .ok (.iastore, 1) := dk_get dk_d02_310 13 rfl
theorem dX12_init_151 : decode cX12_init 151 = .ok (.dup, 1) := dk_get dk_d02_310 14 rfl
theorem dX12_init_152 : decode cX12_init 152 = .ok (.bipush 13, 2) := dk_get dk_d02_310 15 rfl
theorem dX12_init_154 : decode cX12_init 154 = .ok (.bipush 119, 2) := dk_get dk_d02_310 16 rfl
theorem dX12_init_156 : decode cX12_init 156 = .ok (.iastore, 1) := dk_get dk_d02_310 17 rfl
theorem dX12_init_157 : decode cX12_init 157 = .ok (.dup, 1) := dk_get dk_d02_310 18 rfl
theorem dX12_init_158 : decode cX12_init 158 = .ok (.bipush 14, 2) := dk_get dk_d02_310 19 rfl
theorem dX12_init_160 : decode cX12_init 160 = .ok (.bipush 101, 2) := dk_get dk_d02_310 20 rfl
theorem dX12_init_162 : decode cX12_init 162 = .ok (.iastore, 1) := dk_get dk_d02_310 21 rfl
theorem dX12_init_163 : decode cX12_init 163 = .ok (.dup, 1) := dk_get dk_d02_310 22 rfl
theorem dX12_init_164 : decode cX12_init 164 = .ok (.bipush 15, 2) := dk_get dk_d02_310 23 rfl
theorem dX12_init_166 : decode cX12_init 166 = .ok (.bipush 105, 2) := dk_get dk_d02_310 24 rfl
theorem dk_d02_311 : dkc cX12_init [(168, .iastore, 1), (169, .dup, 1), (170, .bipush 16, 2), (172, .bipush 103, 2), (174, .iastore, 1), (175, .dup, 1), (176, .bipush 17, 2), (178, .bipush 104, 2), (180, .iastore, 1), (181, .dup, 1), (182, .bipush 18, 2), (184, .bipush 115, 2), (186, .iastore, 1), (187, .dup, 1), (188, .bipush 19, 2), (190, .bipush 32, 2), (192, .iastore, 1), (193, .dup, 1), (194, .bipush 20, 2), (196, .bipush 119, 2), (198, .iastore, 1), (199, .dup, 1), (200, .bipush 21, 2), (202, .bipush 104, 2), (204, .iastore, 1)] = true := by decide +kernel
theorem dX12_init_168 : decode cX12_init 168 = .ok (.iastore, 1) := dk_get dk_d02_311 0 rfl
theorem dX12_init_169 : decode cX12_init 169 = .ok (.dup, 1) := dk_get dk_d02_311 1 rfl
theorem dX12_init_170 : decode cX12_init 170 = .ok (.bipush 16, 2) := dk_get dk_d02_311 2 rfl
theorem dX12_init_172 : decode cX12_init 172 = .ok (.bipush 103, 2) := dk_get dk_d02_311 3 rfl
theorem dX12_init_174 : decode cX12_init 174 = .ok (.iastore, 1) := dk_get dk_d02_311 4 rfl
theorem dX12_init_175 : decode cX12_init 175 = .ok (.dup, 1) := dk_get dk_d02_311 5 rfl
theorem dX12_init_176 : decode cX12_init 176 = .ok (.bipush 17, 2) := dk_get dk_d02_311 6 rfl
theorem dX12_init_178 : decode cX12_init 178 = .ok (.bipush 104, 2) := dk_get dk_d02_311 7 rfl
theorem dX12_init_180 : decode cX12_init 180 = .ok (.iastore, 1) := dk_get dk_d02_311 8 rfl
theorem dX12_init_181 : decode cX12_init 181 = .ok (.dup, 1) := dk_get dk_d02_311 9 rfl
theorem dX12_init_182 : decode cX12_init 182 = .ok (.bipush 18, 2) := dk_get dk_d02_311 10 rfl
theorem dX12_init_184 : decode cX12_init 184 = .ok (.bipush 115, 2) := dk_get dk_d02_311 11 rfl
theorem dX12_init_186 : decode cX12_init 186 = .ok (.iastore, 1) := dk_get dk_d02_311 12 rfl
theorem dX12_init_187 : decode cX12_init 187 = .ok (.dup, 1) := dk_get dk_d02_311 13 rfl
theorem dX12_init_188 : decode cX12_init 188 = .ok (.bipush 19, 2) := dk_get dk_d02_311 14 rfl
theorem dX12_init_190 : decode cX12_init 190 = .ok (.bipush 32, 2) := dk_get dk_d02_311 15 rfl
theorem dX12_init_192 : decode cX12_init 192 = .ok (.iastore, 1) := dk_get dk_d02_311 16 rfl
theorem dX12_init_193 : decode cX12_init 193 = .ok (.dup, 1) := dk_get dk_d02_311 17 rfl
theorem dX12_init_194 : decode cX12_init 194 = .ok (.bipush 20, 2) := dk_get dk_d02_311 18 rfl
theorem dX12_init_196 : decode cX12_init 196 = .ok (.bipush 119, 2) := dk_get dk_d02_311 19 rfl
theorem dX12_init_198 : decode cX12_init 198 = .ok (.iastore, 1) := dk_get dk_d02_311 20 rfl
theorem dX12_init_199 : decode cX12_init 199 = .ok (.dup, 1) := dk_get dk_d02_311 21 rfl
theorem dX12_init_200 : decode cX12_init 200 = .ok (.bipush 21, 2) := dk_get dk_d02_311 22 rfl
theorem dX12_init_202 : decode cX12_init 202 = .ok (.bipush 104, 2) := dk_get dk_d02_311 23 rfl
theorem dX12_init_204 : decode cX12_init 204 = .ok (.iastore, 1) := dk_get dk_d02_311 24 rfl
theorem dk_d02_312 : dkc cX12_init [(205, .dup, 1), (206, .bipush 22, 2), (208, .bipush 101, 2), (210, .iastore, 1), (211, .dup, 1), (212, .bipush 23, 2), (214, .bipush 110, 2), (216, .iastore, 1), (217, .dup, 1), (218, .bipush 24, 2), (220, .bipush 32, 2), (222, .iastore, 1), (223, .dup, 1), (224, .bipush 25, 2), (226, .bipush 111, 2), (228, .iastore, 1), (229, .dup, 1), (230, .bipush 26, 2), (232, .bipush 114, 2), (234, .iastore, 1), (235, .dup, 1), (236, .bipush 27, 2), (238, .bipush 32, 2), (240, .iastore, 1), (241, .dup, 1)] = true := by decide +kernel
theorem dX12_init_205 : decode cX12_init 205 = .ok (.dup, 1) := dk_get dk_d02_312 0 rfl
theorem dX12_init_206 : decode cX12_init 206 = .ok (.bipush 22, 2) := dk_get dk_d02_312 1 rfl
theorem dX12_init_208 : decode cX12_init 208 = .ok (.bipush 101, 2) := dk_get dk_d02_312 2 rfl
theorem dX12_init_210 : decode cX12_init 210 = .ok (.iastore, 1) := dk_get dk_d02_312 3 rfl
theorem dX12_init_211 : decode cX12_init 211 = .ok (.dup, 1) := dk_get dk_d02_312 4 rfl
theorem dX12_init_212 : decode cX12_init 212 = .ok (.bipush 23, 2) := dk_get dk_d02_312 5 rfl
theorem dX12_init_214 : decode cX12_init 214 = .ok (.bipush 110, 2) := dk_get dk_d02_312 6 rfl
theorem dX12_init_216 : decode cX12_init 216 = .ok (.iastore, 1) := dk_get dk_d02_312 7 rfl
theorem dX12_init_217 : decode cX12_init 217 = .ok (.dup, 1) := dk_get dk_d02_312 8 rfl
theorem dX12_init_218 : decode cX12_init 218 = .ok (.bipush 24, 2) := dk_get dk_d02_312 9 rfl
theorem dX12_init_220 : decode cX12_init 220 = .ok (.bipush 32, 2) := dk_get dk_d02_312 10 rfl
theorem dX12_init_222 : decode cX12_init 222 = .ok (.iastore, 1) := dk_get dk_d02_312 11 rfl
theorem dX12_init_223 : decode cX12_init 223 = .ok (.dup, 1) := dk_get dk_d02_312 12 rfl
theorem dX12_init_224 : decode cX12_init 224 = .ok (.bipush 25, 2) := dk_get dk_d02_312 13 rfl
theorem dX12_init_226 : decode cX12_init 226 = .ok (.bipush 111, 2) := dk_get dk_d02_312 14 rfl
theorem dX12_init_228 : decode cX12_init 228 = .ok (.iastore, 1) := dk_get dk_d02_312 15 rfl
theorem dX12_init_229 : decode cX12_init 229 = .ok (.dup, 1) := dk_get dk_d02_312 16 rfl
theorem dX12_init_230 : decode cX12_init 230 = .ok (.bipush 26, 2) := dk_get dk_d02_312 17 rfl
theorem dX12_init_232 : decode cX12_init 232 = .ok (.bipush 114, 2) := dk_get dk_d02_312 18 rfl
theorem dX12_init_234 : decode cX12_init 234 = .ok (.iastore, 1) := dk_get dk_d02_312 19 rfl
theorem dX12_init_235 : decode cX12_init 235 = .ok (.dup, 1) := dk_get dk_d02_312 20 rfl
theorem dX12_init_236 : decode cX12_init 236 = .ok (.bipush 27, 2) := dk_get dk_d02_312 21 rfl
theorem dX12_init_238 : decode cX12_init 238 = .ok (.bipush 32, 2) := dk_get dk_d02_312 22 rfl
theorem dX12_init_240 : decode cX12_init 240 = .ok (.iastore, 1) := dk_get dk_d02_312 23 rfl
theorem dX12_init_241 : decode cX12_init 241 = .ok (.dup, 1) := dk_get dk_d02_312 24 rfl
theorem dk_d02_313 : dkc cX12_init [(242, .bipush 28, 2), (244, .bipush 97, 2), (246, .iastore, 1), (247, .dup, 1), (248, .bipush 29, 2), (250, .bipush 110, 2), (252, .iastore, 1), (253, .dup, 1), (254, .bipush 30, 2), (256, .bipush 100, 2), (258, .iastore, 1), (259, .dup, 1), (260, .bipush 31, 2), (262, .bipush 32, 2), (264, .iastore, 1), (265, .dup, 1), (266, .bipush 32, 2), (268, .bipush 110, 2), (270, .iastore, 1), (271, .dup, 1), (272, .bipush 33, 2), (274, .bipush 111, 2), (276, .iastore, 1), (277, .dup, 1), (278, .bipush 34, 2)] = true := by decide +kernel
theorem dX12_init_242 : decode cX12_init 242 = .ok (.bipush 28, 2) := dk_get dk_d02_313 0 rfl
theorem dX12_init_244 : decode cX12_init 244 = .ok (.bipush 97, 2) := dk_get dk_d02_313 1 rfl
theorem dX12_init_246 : decode cX12_init 246 = .ok (.iastore, 1) := dk_get dk_d02_313 2 rfl
theorem dX12_init_247 : decode cX12_init 247 = .ok (.dup, 1) := dk_get dk_d02_313 3 rfl
theorem dX12_init_248 : decode cX12_init 248 = .ok (.bipush 29, 2) := dk_get dk_d02_313 4 rfl
theorem dX12_init_250 : decode cX12_init 250 = .ok (.bipush 110, 2) := dk_get dk_d02_313 5 rfl
theorem dX12_init_252 : decode cX12_init 252 = .ok (.iastore, 1) := dk_get dk_d02_313 6 rfl
theorem dX12_init_253 : decode cX12_init 253 = .ok (.dup, 1) := dk_get dk_d02_313 7 rfl
theorem dX12_init_254 : decode cX12_init 254 = .ok (.bipush 30, 2) := dk_get dk_d02_313 8 rfl
theorem dX12_init_256 : decode cX12_init 256 = .ok (.bipush 100, 2) := dk_get dk_d02_313 9 rfl
theorem dX12_init_258 : decode cX12_init 258 = .ok (.iastore, 1) := dk_get dk_d02_313 10 rfl
theorem dX12_init_259 : decode cX12_init 259 = .ok (.dup, 1) := dk_get dk_d02_313 11 rfl
theorem dX12_init_260 : decode cX12_init 260 = .ok (.bipush 31, 2) := dk_get dk_d02_313 12 rfl
theorem dX12_init_262 : decode cX12_init 262 = .ok (.bipush 32, 2) := dk_get dk_d02_313 13 rfl
theorem dX12_init_264 : decode cX12_init 264 = .ok (.iastore, 1) := dk_get dk_d02_313 14 rfl
theorem dX12_init_265 : decode cX12_init 265 = .ok (.dup, 1) := dk_get dk_d02_313 15 rfl
theorem dX12_init_266 : decode cX12_init 266 = .ok (.bipush 32, 2) := dk_get dk_d02_313 16 rfl
theorem dX12_init_268 : decode cX12_init 268 = .ok (.bipush 110, 2) := dk_get dk_d02_313 17 rfl
theorem dX12_init_270 : decode cX12_init 270 = .ok (.iastore, 1) := dk_get dk_d02_313 18 rfl
theorem dX12_init_271 : decode cX12_init 271 = .ok (.dup, 1) := dk_get dk_d02_313 19 rfl
theorem dX12_init_272 : decode cX12_init 272 = .ok (.bipush 33, 2) := dk_get dk_d02_313 20 rfl
theorem dX12_init_274 : decode cX12_init 274 = .ok (.bipush 111, 2) := dk_get dk_d02_313 21 rfl
theorem dX12_init_276 : decode cX12_init 276 = .ok (.iastore, 1) := dk_get dk_d02_313 22 rfl
theorem dX12_init_277 : decode cX12_init 277 = .ok (.dup, 1) := dk_get dk_d02_313 23 rfl
theorem dX12_init_278 : decode cX12_init 278 = .ok (.bipush 34, 2) := dk_get dk_d02_313 24 rfl
theorem dk_d02_314 : dkc cX12_init [(280, .bipush 116, 2), (282, .iastore, 1), (283, .dup, 1), (284, .bipush 35, 2), (286, .bipush 32, 2), (288, .iastore, 1), (289, .dup, 1), (290, .bipush 36, 2), (292, .bipush 109, 2), (294, .iastore, 1), (295, .dup, 1), (296, .bipush 37, 2), (298, .bipush 105, 2), (300, .iastore, 1), (301, .dup, 1), (302, .bipush 38, 2), (304, .bipush 110, 2), (306, .iastore, 1), (307, .dup, 1), (308, .bipush 39, 2), (310, .bipush 100, 2), (312, .iastore, 1), (313, .dup, 1), (314, .bipush 40, 2), (316, .bipush 32, 2)] = true := by decide +kernel
theorem dX12_init_280 : decode cX12_init 280 = .ok (.bipush 116, 2) := dk_get dk_d02_314 0 rfl
theorem dX12_init_282 : decode cX12_init 282 = .ok (.iastore, 1) := dk_get dk_d02_314 1 rfl
theorem dX12_init_283 : decode cX12_init 283 = .ok (.dup, 1) := dk_get dk_d02_314 2 rfl
theorem dX12_init_284 : decode cX12_init 284 = .ok (.bipush 35, 2) := dk_get dk_d02_314 3 rfl
theorem dX12_init_286 : decode cX12_init 286 = .ok (.bipush 32, 2) := dk_get dk_d02_314 4 rfl
theorem dX12_init_288 : decode cX12_init 288 = .ok (.iastore, 1) := dk_get dk_d02_314 5 rfl
theorem dX12_init_289 : decode cX12_init 289 = .ok (.dup, 1) := dk_get dk_d02_314 6 rfl
theorem dX12_init_290 : decode cX12_init 290 = .ok (.bipush 36, 2) := dk_get dk_d02_314 7 rfl
theorem dX12_init_292 : decode cX12_init 292 = .ok (.bipush 109, 2) := dk_get dk_d02_314 8 rfl
theorem dX12_init_294 : decode cX12_init 294 = .ok (.iastore, 1) := dk_get dk_d02_314 9 rfl
theorem dX12_init_295 : decode cX12_init 295 = .ok (.dup, 1) := dk_get dk_d02_314 10 rfl
theorem dX12_init_296 : decode cX12_init 296 = .ok (.bipush 37, 2) := dk_get dk_d02_314 11 rfl
theorem dX12_init_298 : decode cX12_init 298 = .ok (.bipush 105, 2) := dk_get dk_d02_314 12 rfl
theorem dX12_init_300 : decode cX12_init 300 = .ok (.iastore, 1) := dk_get dk_d02_314 13 rfl
theorem dX12_init_301 : decode cX12_init 301 = .ok (.dup, 1) := dk_get dk_d02_314 14 rfl
theorem dX12_init_302 : decode cX12_init 302 = .ok (.bipush 38, 2) := dk_get dk_d02_314 15 rfl
theorem dX12_init_304 : decode cX12_init 304 = .ok (.bipush 110, 2) := dk_get dk_d02_314 16 rfl
theorem dX12_init_306 : decode cX12_init 306 = .ok (.iastore, 1) := dk_get dk_d02_314 17 rfl
theorem dX12_init_307 : decode cX12_init 307 = .ok (.dup, 1) := dk_get dk_d02_314 18 rfl
theorem dX12_init_308 : decode cX12_init 308 = .ok (.bipush 39, 2) := dk_get dk_d02_314 19 rfl
theorem dX12_init_310 : decode cX12_init 310 = .ok (.bipush 100, 2) := dk_get dk_d02_314 20 rfl
theorem dX12_init_312 : decode cX12_init 312 = .ok (.iastore, 1) := dk_get dk_d02_314 21 rfl
theorem dX12_init_313 : decode cX12_init 313 = .ok (.dup, 1) := dk_get dk_d02_314 22 rfl
theorem dX12_init_314 : decode cX12_init 314 = .ok (.bipush 40, 2) := dk_get dk_d02_314 23 rfl
theorem dX12_init_316 : decode cX12_init 316 = .ok (.bipush 32, 2) := dk_get dk_d02_314 24 rfl
theorem dk_d02_315 : dkc cX12_init [(318, .iastore, 1), (319, .dup, 1), (320, .bipush 41, 2), (322, .bipush 112, 2), (324, .iastore, 1), (325, .dup, 1), (326, .bipush 42, 2), (328, .bipush 114, 2), (330, .iastore, 1), (331, .dup, 1), (332, .bipush 43, 2), (334, .bipush 101, 2), (336, .iastore, 1), (337, .dup, 1), (338, .bipush 44, 2), (340, .bipush 115, 2), (342, .iastore, 1), (343, .dup, 1), (344, .bipush 45, 2), (346, .bipush 115, 2), (348, .iastore, 1), (349, .dup, 1), (350, .bipush 46, 2), (352, .bipush 32, 2), (354, .iastore, 1)] = true := by decide +kernel
theorem dX12_init_318 : decode cX12_init 318 = .ok (.iastore, 1) := dk_get dk_d02_315 0 rfl
theorem dX12_init_319 : decode cX12_init 319 = .ok (.dup, 1) := dk_get dk_d02_315 1 rfl
theorem dX12_init_320 : decode cX12_init 320 = .ok (.bipush 41, 2) := dk_get dk_d02_315 2 rfl
theorem dX12_init_322 : decode cX12_init 322 = .ok (.bipush 112, 2) := dk_get dk_d02_315 3 rfl
theorem dX12_init_324 : decode cX12_init 324 = .ok (.iastore, 1) := dk_get dk_d02_315 4 rfl
theorem dX12_init_325 : decode cX12_init 325 = .ok (.dup, 1) := dk_get dk_d02_315 5 rfl
theorem dX12_init_326 : decode cX12_init 326 = .ok (.bipush 42, 2) := dk_get dk_d02_315 6 rfl
theorem dX12_init_328 : decode cX12_init 328 = .ok (.bipush 114, 2) := dk_get dk_d02_315 7 rfl
theorem dX12_init_330 : decode cX12_init 330 = .ok (.iastore, 1) := dk_get dk_d02_315 8 rfl
theorem dX12_init_331 : decode cX12_init 331 = .ok (.dup, 1) := dk_get dk_d02_315 9 rfl
theorem dX12_init_332 : decode cX12_init 332 = .ok (.bipush 43, 2) := dk_get dk_d02_315 10 rfl
theorem dX12_init_334 : decode cX12_init 334 = .ok (.bipush 101, 2) := dk_get dk_d02_315 11 rfl
theorem dX12_init_336 : decode cX12_init 336 = .ok (.iastore, 1) := dk_get dk_d02_315 12 rfl
theorem dX12_init_337 : decode cX12_init 337 = .ok (.dup, 1) := dk_get dk_d02_315 13 rfl
theorem dX12_init_338 : decode cX12_init 338 = .ok (.bipush 44, 2) := dk_get dk_d02_315 14 rfl
theorem dX12_init_340 : decode cX12_init 340 = .ok (.bipush 115, 2) := dk_get dk_d02_315 15 rfl
theorem dX12_init_342 : decode cX12_init 342 = .ok (.iastore, 1) := dk_get dk_d02_315 16 rfl
theorem dX12_init_343 : decode cX12_init 343 = .ok (.dup, 1) := dk_get dk_d02_315 17 rfl
theorem dX12_init_344 : decode cX12_init 344 = .ok (.bipush 45, 2) := dk_get dk_d02_315 18 rfl
theorem dX12_init_346 : decode cX12_init 346 = .ok (.bipush 115, 2) := dk_get dk_d02_315 19 rfl
theorem dX12_init_348 : decode cX12_init 348 = .ok (.iastore, 1) := dk_get dk_d02_315 20 rfl
theorem dX12_init_349 : decode cX12_init 349 = .ok (.dup, 1) := dk_get dk_d02_315 21 rfl
theorem dX12_init_350 : decode cX12_init 350 = .ok (.bipush 46, 2) := dk_get dk_d02_315 22 rfl
theorem dX12_init_352 : decode cX12_init 352 = .ok (.bipush 32, 2) := dk_get dk_d02_315 23 rfl
theorem dX12_init_354 : decode cX12_init 354 = .ok (.iastore, 1) := dk_get dk_d02_315 24 rfl
theorem dk_d02_316 : dkc cX12_init [(355, .dup, 1), (356, .bipush 47, 2), (358, .bipush 104, 2), (360, .iastore, 1), (361, .dup, 1), (362, .bipush 48, 2), (364, .bipush 101, 2), (366, .iastore, 1), (367, .dup, 1), (368, .bipush 49, 2), (370, .bipush 105, 2), (372, .iastore, 1), (373, .dup, 1), (374, .bipush 50, 2)] = true := by decide +kernel
theorem dX12_init_355 : decode cX12_init 355 = .ok (.dup, 1) := dk_get dk_d02_316 0 rfl
theorem dX12_init_356 : decode cX12_init 356 = .ok (.bipush 47, 2) := dk_get dk_d02_316 1 rfl
theorem dX12_init_358 : decode cX12_init 358 = .ok (.bipush 104, 2) := dk_get dk_d02_316 2 rfl
theorem dX12_init_360 : decode cX12_init 360 = .ok (.iastore, 1) := dk_get dk_d02_316 3 rfl
theorem dX12_init_361 : decode cX12_init 361 = .ok (.dup, 1) := dk_get dk_d02_316 4 rfl
theorem dX12_init_362 : decode cX12_init 362 = .ok (.bipush 48, 2) := dk_get dk_d02_316 5 rfl
theorem dX12_init_364 : decode cX12_init 364 = .ok (.bipush 101, 2) := dk_get dk_d02_316 6 rfl
theorem dX12_init_366 : decode cX12_init 366 = .ok (.iastore, 1) := dk_get dk_d02_316 7 rfl
theorem dX12_init_367 : decode cX12_init 367 = .ok (.dup, 1) := dk_get dk_d02_316 8 rfl
theorem dX12_init_368 : decode cX12_init 368 = .ok (.bipush 49, 2) := dk_get dk_d02_316 9 rfl
theorem dX12_init_370 : decode cX12_init 370 = .ok (.bipush 105, 2) := dk_get dk_d02_316 10 rfl
theorem dX12_init_372 : decode cX12_init 372 = .ok (.iastore, 1) := dk_get dk_d02_316 11 rfl
theorem dX12_init_373 : decode cX12_init 373 = .ok (.dup, 1) := dk_get dk_d02_316 12 rfl
theorem dX12_init_374 : decode cX12_init 374 = .ok (.bipush 50, 2) := dk_get dk_d02_316 13 rfl

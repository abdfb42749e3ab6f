theorem dk_d01_109 : dkc cX4_sums [(87, .iconst 0, 1), (88, .istore 4, 2), (90, .iconst 0, 1), (91, .istore 5, 2), (93, .iconst 0, 1), (94, .istore 6, 2), (96, .iload 6, 2), (98, .iload_n 2, 1), (99, .if_icmp .gt 37, 3), (102, .iload 6, 2), (104, .aload_n 0, 1), (105, .getfield 9, 3), (108, .arraylength, 1), (109, .if_icmp .ge 27, 3), (112, .aload_n 0, 1), (113, .getfield 9, 3), (116, .iload 6, 2), (118, .iaload, 1), (119, .iconst 1, 1), (120, .if_icmp .ne 10, 3), (123, .iinc 4 1, 3), (126, .iload 6, 2), (128, .istore 5, 2), (130, .iinc 6 1, 3), (133, .goto (-37), 3)] = true := by decide +kernel
theorem dX4_sums_87 : decode cX4_sums 87 = .ok (.iconst 0, 1) := dk_get dk_d01_109 0 rfl
theorem dX4_sums_88 : decode cX4_sums 88 = .ok (.istore 4, 2) := dk_get dk_d01_109 1 rfl
theorem dX4_sums_90 : decode cX4_sums 90 = .ok (.iconst 0, 1) := dk_get dk_d01_109 2 rfl
theorem dX4_sums_91 : decode cX4_sums 91 = .ok (.istore 5, 2) := dk_get dk_d01_109 3 rfl
theorem dX4_sums_93 : decode cX4_sums 93 = .ok (.iconst 0, 1) := dk_get dk_d01_109 4 rfl
theorem dX4_sums_94 : decode cX4_sums 94 = .ok (.istore 6, 2) := dk_get dk_d01_109 5 rfl
theorem dX4_sums_96 : decode cX4_sums 96 = .ok (.iload 6, 2) := dk_get dk_d01_109 6 rfl
theorem dX4_sums_98 : decode cX4_sums 98 = .ok (.iload_n 2, 1) := dk_get dk_d01_109 7 rfl
theorem dX4_sums_99 : decode cX4_sums 99 = .ok (.if_icmp .gt 37, 3) := dk_get dk_d01_109 8 rfl
theorem dX4_sums_102 : decode cX4_sums 102 = .ok (.iload 6, 2) := dk_get dk_d01_109 9 rfl
theorem dX4_sums_104 : decode cX4_sums 104 = .ok (.aload_n 0, 1) := dk_get dk_d01_109 10 rfl
theorem dX4_sums_105 : decode cX4_sums 105 = .ok (.getfield 9, 3) := dk_get dk_d01_109 11 rfl
theorem dX4_sums_108 : decode cX4_sums 108 = .ok (.arraylength, 1) := dk_get dk_d01_109 12 rfl
theorem dX4_sums_109 : decode cX4_sums 109 = .ok (.if_icmp .ge 27, 3) := dk_get dk_d01_109 13 rfl
theorem dX4_sums_112 : decode cX4_sums 112 = .ok (.aload_n 0, 1) := dk_get dk_d01_109 14 rfl
theorem dX4_sums_113 : decode cX4_sums 113 = .ok (.getfield 9, 3) := dk_get dk_d01_109 15 rfl
theorem dX4_sums_116 : decode cX4_sums 116 = .ok (.iload 6, 2) := dk_get dk_d01_109 16 rfl
theorem dX4_sums_118 : decode cX4_sums 118 = .ok (.iaload, 1) := dk_get dk_d01_109 17 rfl
theorem dX4_sums_119 : decode cX4_sums 119 = .ok (.iconst 1, 1) := dk_get dk_d01_109 18 rfl
theorem dX4_sums_120 : decode cX4_sums 120 = .ok (.if_icmp .ne 10, 3) := dk_get dk_d01_109 19 rfl
theorem dX4_sums_123 : decode cX4_sums 123 = .ok (.iinc 4 1, 3) := dk_get dk_d01_109 20 rfl
theorem dX4_sums_126 : decode cX4_sums 126 = .ok (.iload 6, 2) := dk_get dk_d01_109 21 rfl
theorem dX4_sums_128 : decode cX4_sums 128 = .ok (.istore 5, 2) := dk_get dk_d01_109 22 rfl
theorem dX4_sums_130 : decode cX4_sums 130 = .ok (.iinc 6 1, 3) := dk_get dk_d01_109 23 rfl
theorem dX4_sums_133 : decode cX4_sums 133 = .ok (.goto (-37), 3) := dk_get dk_d01_109 24 rfl
theorem dk_d01_110 : dkc cX4_sums [(136, .iload_n 3, 1), (137, .ifCond .eq 8, 3), (140, .iload 4, 2), (142, .goto 5, 3), (145, .iload 5, 2), (147, .ireturn, 1)] = true := by decide +kernel
theorem dX4_sums_136 : decode cX4_sums 136 = .ok (.iload_n 3, 1) := dk_get dk_d01_110 0 rfl
theorem dX4_sums_137 : decode cX4_sums 137 = .ok (.ifCond .eq 8, 3) := dk_get dk_d01_110 1 rfl
theorem dX4_sums_140 : decode cX4_sums 140 = .ok (.iload 4, 2) := dk_get dk_d01_110 2 rfl
theorem dX4_sums_142 : decode cX4_sums 142 = .ok (.goto 5, 3) := dk_get dk_d01_110 3 rfl
theorem dX4_sums_145 : decode cX4_sums 145 = .ok (.iload 5, 2) := dk_get dk_d01_110 4 rfl
theorem dX4_sums_147 : decode cX4_sums 147 = .ok (.ireturn, 1) := dk_get dk_d01_110 5 rfl
theorem dk_d01_111 : dkc cX4_mostStacked [(0, .iconst 1, 1), (1, .aload_n 1, 1), (2, .getfield 24, 3), (5, .bipush 8, 2), (7, .invokestatic 34, 3), (10, .ishl, 1), (11, .istore_n 2, 1), (12, .iconst 0, 1), (13, .istore_n 3, 1), (14, .aload_n 0, 1), (15, .getfield 9, 3), (18, .iconst 0, 1), (19, .iconst 0, 1), (20, .iastore, 1), (21, .iconst 1, 1), (22, .istore 4, 2), (24, .iload 4, 2), (26, .iload_n 2, 1), (27, .if_icmp .ge 138, 3), (30, .aload_n 0, 1), (31, .getfield 9, 3), (34, .iload 4, 2), (36, .iconst (-1), 1), (37, .iastore, 1), (38, .iconst 0, 1)] = true := by decide +kernel
theorem dX4_mostStacked_0 : decode cX4_mostStacked 0 = .ok (.iconst 1, 1) := dk_get dk_d01_111 0 rfl
theorem dX4_mostStacked_1 : decode cX4_mostStacked 1 = .ok (.aload_n 1, 1) := dk_get dk_d01_111 1 rfl
theorem dX4_mostStacked_2 : decode cX4_mostStacked 2 = .ok (.getfield 24, 3) := dk_get dk_d01_111 2 rfl
theorem dX4_mostStacked_5 : decode cX4_mostStacked 5 = .ok (.bipush 8, 2) := dk_get dk_d01_111 3 rfl
theorem dX4_mostStacked_7 : decode cX4_mostStacked 7 = .ok (.invokestatic 34, 3) := dk_get dk_d01_111 4 rfl
theorem dX4_mostStacked_10 : decode cX4_mostStacked 10 = .ok (.ishl, 1) := dk_get dk_d01_111 5 rfl
theorem dX4_mostStacked_11 : decode cX4_mostStacked 11 = .ok (.istore_n 2, 1) := dk_get dk_d01_111 6 rfl
theorem dX4_mostStacked_12 : decode cX4_mostStacked 12 = .ok (.iconst 0, 1) := dk_get dk_d01_111 7 rfl
theorem dX4_mostStacked_13 : decode cX4_mostStacked 13 = .ok (.istore_n 3, 1) := dk_get dk_d01_111 8 rfl
theorem dX4_mostStacked_14 : decode cX4_mostStacked 14 = .ok (.aload_n 0, 1) := dk_get dk_d01_111 9 rfl
theorem dX4_mostStacked_15 : decode cX4_mostStacked 15 = .ok (.getfield 9, 3) := dk_get dk_d01_111 10 rfl
theorem dX4_mostStacked_18 : decode cX4_mostStacked 18 = .ok (.iconst 0, 1) := dk_get dk_d01_111 11 rfl
theorem dX4_mostStacked_19 : decode cX4_mostStacked 19 = .ok (.iconst 0, 1) := dk_get dk_d01_111 12 rfl
theorem dX4_mostStacked_20 : decode cX4_mostStacked 20 = .ok (.iastore, 1) := dk_get dk_d01_111 13 rfl
theorem dX4_mostStacked_21 : decode cX4_mostStacked 21 = .ok (.iconst 1, 1) := dk_get dk_d01_111 14 rfl
theorem dX4_mostStacked_22 : decode cX4_mostStacked 22 = .ok (.istore 4, 2) := dk_get dk_d01_111 15 rfl
theorem dX4_mostStacked_24 : decode cX4_mostStacked 24 = .ok (.iload 4, 2) := dk_get dk_d01_111 16 rfl
theorem dX4_mostStacked_26 : decode cX4_mostStacked 26 = .ok (.iload_n 2, 1) := dk_get dk_d01_111 17 rfl
theorem dX4_mostStacked_27 : decode cX4_mostStacked 27 = .ok (.if_icmp .ge 138, 3) := dk_get dk_d01_111 18 rfl
theorem dX4_mostStacked_30 : decode cX4_mostStacked 30 = .ok (.aload_n 0, 1) := dk_get dk_d01_111 19 rfl
theorem dX4_mostStacked_31 : decode cX4_mostStacked 31 = .ok (.getfield 9, 3) := dk_get dk_d01_111 20 rfl
theorem dX4_mostStacked_34 : decode cX4_mostStacked 34 = .ok (.iload 4, 2) := dk_get dk_d01_111 21 rfl
theorem dX4_mostStacked_36 : decode cX4_mostStacked 36 = .ok (.iconst (-1), 1) := dk_get dk_d01_111 22 rfl
theorem dX4_mostStacked_37 : decode cX4_mostStacked 37 = .ok (.iastore, 1) := dk_get dk_d01_111 23 rfl
theorem dX4_mostStacked_38 : decode cX4_mostStacked 38 = .ok (.iconst 0, 1) := dk_get dk_d01_111 24 rfl
theorem dk_d01_112 : dkc cX4_mostStacked [(39, .istore 5, 2), (41, .iload 5, 2), (43, .aload_n 1, 1), (44, .getfield 24, 3), (47, .if_icmp .ge 91, 3), (50, .iload 4, 2), (52, .iconst 1, 1), (53, .iload 5, 2), (55, .ishl, 1), (56, .iconst (-1), 1), (57, .ixor, 1), (58, .iand, 1), (59, .istore 6, 2), (61, .aload_n 1, 1), (62, .iload 5, 2), (64, .invokevirtual 30, 3), (67, .sipush 256, 3), (70, .idiv, 1), (71, .istore 7, 2), (73, .aload_n 1, 1), (74, .iload 5, 2), (76, .invokevirtual 30, 3), (79, .sipush 256, 3), (82, .irem, 1), (83, .istore 8, 2)] = true := by decide +kernel
theorem dX4_mostStacked_39 : decode cX4_mostStacked 39 = .ok (.istore 5, 2) := dk_get dk_d01_112 0 rfl
theorem dX4_mostStacked_41 : decode cX4_mostStacked 41 = .ok (.iload 5, 2) := dk_get dk_d01_112 1 rfl
theorem dX4_mostStacked_43 : decode cX4_mostStacked 43 = .ok (.aload_n 1, 1) := dk_get dk_d01_112 2 rfl
theorem dX4_mostStacked_44 : decode cX4_mostStacked 44 = .ok (.getfield 24, 3) := dk_get dk_d01_112 3 rfl
theorem dX4_mostStacked_47 : decode cX4_mostStacked 47 = .ok (.if_icmp .ge 91, 3) := dk_get dk_d01_112 4 rfl
theorem dX4_mostStacked_50 : decode cX4_mostStacked 50 = .ok (.iload 4, 2) := dk_get dk_d01_112 5 rfl
theorem dX4_mostStacked_52 : decode cX4_mostStacked 52 = .ok (.iconst 1, 1) := dk_get dk_d01_112 6 rfl
theorem dX4_mostStacked_53 : decode cX4_mostStacked 53 = .ok (.iload 5, 2) := dk_get dk_d01_112 7 rfl
theorem dX4_mostStacked_55 : decode cX4_mostStacked 55 = .ok (.ishl, 1) := dk_get dk_d01_112 8 rfl
theorem dX4_mostStacked_56 : decode cX4_mostStacked 56 = .ok (.iconst (-1), 1) := dk_get dk_d01_112 9 rfl
theorem dX4_mostStacked_57 : decode cX4_mostStacked 57 = .ok (.ixor, 1) := dk_get dk_d01_112 10 rfl
theorem dX4_mostStacked_58 : decode cX4_mostStacked 58 = .ok (.iand, 1) := dk_get dk_d01_112 11 rfl
theorem dX4_mostStacked_59 : decode cX4_mostStacked 59 = .ok (.istore 6, 2) := dk_get dk_d01_112 12 rfl
theorem dX4_mostStacked_61 : decode cX4_mostStacked 61 = .ok (.aload_n 1, 1) := dk_get dk_d01_112 13 rfl
theorem dX4_mostStacked_62 : decode cX4_mostStacked 62 = .ok (.iload 5, 2) := dk_get dk_d01_112 14 rfl
theorem dX4_mostStacked_64 : decode cX4_mostStacked 64 = .ok (.invokevirtual 30, 3) := dk_get dk_d01_112 15 rfl
theorem dX4_mostStacked_67 : decode cX4_mostStacked 67 = .ok (.sipush 256, 3) := dk_get dk_d01_112 16 rfl
theorem dX4_mostStacked_70 : decode cX4_mostStacked 70 = .ok (.idiv, 1) := dk_get dk_d01_112 17 rfl
theorem dX4_mostStacked_71 : decode cX4_mostStacked 71 = .ok (.istore 7, 2) := dk_get dk_d01_112 18 rfl
theorem dX4_mostStacked_73 : decode cX4_mostStacked 73 = .ok (.aload_n 1, 1) := dk_get dk_d01_112 19 rfl
theorem dX4_mostStacked_74 : decode cX4_mostStacked 74 = .ok (.iload 5, 2) := dk_get dk_d01_112 20 rfl
theorem dX4_mostStacked_76 : decode cX4_mostStacked 76 = .ok (.invokevirtual 30, 3) := dk_get dk_d01_112 21 rfl
theorem dX4_mostStacked_79 : decode cX4_mostStacked 79 = .ok (.sipush 256, 3) := dk_get dk_d01_112 22 rfl
theorem dX4_mostStacked_82 : decode cX4_mostStacked 82 = .ok (.irem, 1) := dk_get dk_d01_112 23 rfl
theorem dX4_mostStacked_83 : decode cX4_mostStacked 83 = .ok (.istore 8, 2) := dk_get dk_d01_112 24 rfl
theorem dk_d01_113 : dkc cX4_mostStacked [(85, .iload 6, 2), (87, .iload 4, 2), (89, .if_icmp .ge 43, 3), (92, .aload_n 0, 1), (93, .getfield 9, 3), (96, .iload 6, 2), (98, .iaload, 1), (99, .iconst (-1), 1), (100, .if_icmp .eq 32, 3), (103, .aload_n 0, 1), (104, .getfield 9, 3), (107, .iload 6, 2), (109, .iaload, 1), (110, .iload 8, 2), (112, .if_icmp .gt 20, 3), (115, .aload_n 0, 1), (116, .getfield 9, 3), (119, .iload 4, 2), (121, .aload_n 0, 1), (122, .getfield 9, 3), (125, .iload 6, 2), (127, .iaload, 1), (128, .iload 7, 2), (130, .iadd, 1), (131, .iastore, 1)] = true := by decide +kernel
theorem dX4_mostStacked_85 : decode cX4_mostStacked 85 = .ok (.iload 6, 2) := dk_get dk_d01_113 0 rfl
theorem dX4_mostStacked_87 : decode cX4_mostStacked 87 = .ok (.iload 4, 2) := dk_get dk_d01_113 1 rfl
theorem dX4_mostStacked_89 : decode cX4_mostStacked 89 = .ok (.if_icmp .ge 43, 3) := dk_get dk_d01_113 2 rfl
theorem dX4_mostStacked_92 : decode cX4_mostStacked 92 = .ok (.aload_n 0, 1) := dk_get dk_d01_113 3 rfl
theorem dX4_mostStacked_93 : decode cX4_mostStacked 93 = .ok (.getfield 9, 3) := dk_get dk_d01_113 4 rfl
theorem dX4_mostStacked_96 : decode cX4_mostStacked 96 = .ok (.iload 6, 2) := dk_get dk_d01_113 5 rfl
theorem dX4_mostStacked_98 : decode cX4_mostStacked 98 = .ok (.iaload, 1) := dk_get dk_d01_113 6 rfl
theorem dX4_mostStacked_99 : decode cX4_mostStacked 99 = .ok (.iconst (-1), 1) := dk_get dk_d01_113 7 rfl
theorem dX4_mostStacked_100 : decode cX4_mostStacked 100 = .ok (.if_icmp .eq 32, 3) := dk_get dk_d01_113 8 rfl
theorem dX4_mostStacked_103 : decode cX4_mostStacked 103 = .ok (.aload_n 0, 1) := dk_get dk_d01_113 9 rfl
theorem dX4_mostStacked_104 : decode cX4_mostStacked 104 = .ok (.getfield 9, 3) := dk_get dk_d01_113 10 rfl
theorem dX4_mostStacked_107 : decode cX4_mostStacked 107 = .ok (.iload 6, 2) := dk_get dk_d01_113 11 rfl
theorem dX4_mostStacked_109 : decode cX4_mostStacked 109 = .ok (.iaload, 1) := dk_get dk_d01_113 12 rfl
theorem dX4_mostStacked_110 : decode cX4_mostStacked 110 = .ok (.iload 8, 2) := dk_get dk_d01_113 13 rfl
theorem dX4_mostStacked_112 : decode cX4_mostStacked 112 = .ok (.if_icmp .gt 20, 3) := dk_get dk_d01_113 14 rfl
theorem dX4_mostStacked_115 : decode cX4_mostStacked 115 = .ok (.aload_n 0, 1) := dk_get dk_d01_113 15 rfl
theorem dX4_mostStacked_116 : decode cX4_mostStacked 116 = .ok (.getfield 9, 3) := dk_get dk_d01_113 16 rfl
theorem dX4_mostStacked_119 : decode cX4_mostStacked 119 = .ok (.iload 4, 2) := dk_get dk_d01_113 17 rfl
theorem dX4_mostStacked_121 : decode cX4_mostStacked 121 = .ok (.aload_n 0, 1) := dk_get dk_d01_113 18 rfl
theorem dX4_mostStacked_122 : decode cX4_mostStacked 122 = .ok (.getfield 9, 3) := dk_get dk_d01_113 19 rfl
theorem dX4_mostStacked_125 : decode cX4_mostStacked 125 = .ok (.iload 6, 2) := dk_get dk_d01_113 20 rfl
theorem dX4_mostStacked_127 : decode cX4_mostStacked 127 = .ok (.iaload, 1) := dk_get dk_d01_113 21 rfl
theorem dX4_mostStacked_128 : decode cX4_mostStacked 128 = .ok (.iload 7, 2) := dk_get dk_d01_113 22 rfl
theorem dX4_mostStacked_130 : decode cX4_mostStacked 130 = .ok (.iadd, 1) := dk_get dk_d01_113 23 rfl
theorem dX4_mostStacked_131 : decode cX4_mostStacked 131 = .ok (.iastore, 1) := dk_get dk_d01_113 24 rfl
theorem dk_d01_114 : dkc cX4_mostStacked [(132, .iinc 5 1, 3), (135, .goto (-94), 3), (138, .aload_n 0, 1), (139, .getfield 9, 3), (142, .iload 4, 2), (144, .iaload, 1), (145, .iconst (-1), 1), (146, .if_icmp .eq 13, 3), (149, .iload_n 3, 1), (150, .iload 4, 2), (152, .invokestatic 58, 3), (155, .invokestatic 55, 3), (158, .istore_n 3, 1), (159, .iinc 4 1, 3), (162, .goto (-138), 3), (165, .iload_n 3, 1), (166, .ireturn, 1)] = true := by decide +kernel
theorem dX4_mostStacked_132 : decode cX4_mostStacked 132 = .ok (.iinc 5 1, 3) := dk_get dk_d01_114 0 rfl
theorem dX4_mostStacked_135 : decode cX4_mostStacked 135 = .ok (.goto (-94), 3) := dk_get dk_d01_114 1 rfl
theorem dX4_mostStacked_138 : decode cX4_mostStacked 138 = .ok (.aload_n 0, 1) := dk_get dk_d01_114 2 rfl
theorem dX4_mostStacked_139 : decode cX4_mostStacked 139 = .ok (.getfield 9, 3) := dk_get dk_d01_114 3 rfl
theorem dX4_mostStacked_142 : decode cX4_mostStacked 142 = .ok (.iload 4, 2) := dk_get dk_d01_114 4 rfl
theorem dX4_mostStacked_144 : decode cX4_mostStacked 144 = .ok (.iaload, 1) := dk_get dk_d01_114 5 rfl
theorem dX4_mostStacked_145 : decode cX4_mostStacked 145 = .ok (.iconst (-1), 1) := dk_get dk_d01_114 6 rfl
theorem dX4_mostStacked_146 : decode cX4_mostStacked 146 = .ok (.if_icmp .eq 13, 3) := dk_get dk_d01_114 7 rfl
theorem dX4_mostStacked_149 : decode cX4_mostStacked 149 = .ok (.iload_n 3, 1) := dk_get dk_d01_114 8 rfl
theorem dX4_mostStacked_150 : decode cX4_mostStacked 150 = .ok (.iload 4, 2) := dk_get dk_d01_114 9 rfl
theorem dX4_mostStacked_152 : decode cX4_mostStacked 152 = .ok (.invokestatic 58, 3) := dk_get dk_d01_114 10 rfl
theorem dX4_mostStacked_155 : decode cX4_mostStacked 155 = .ok (.invokestatic 55, 3) := dk_get dk_d01_114 11 rfl
theorem dX4_mostStacked_158 : decode cX4_mostStacked 158 = .ok (.istore_n 3, 1) := dk_get dk_d01_114 12 rfl
theorem dX4_mostStacked_159 : decode cX4_mostStacked 159 = .ok (.iinc 4 1, 3) := dk_get dk_d01_114 13 rfl
theorem dX4_mostStacked_162 : decode cX4_mostStacked 162 = .ok (.goto (-138), 3) := dk_get dk_d01_114 14 rfl
theorem dX4_mostStacked_165 : decode cX4_mostStacked 165 = .ok (.iload_n 3, 1) := dk_get dk_d01_114 15 rfl
theorem dX4_mostStacked_166 : decode cX4_mostStacked 166 = .ok (.ireturn, 1) := dk_get dk_d01_114 16 rfl
theorem dk_d01_115 : dkc cX4_shown [(0, .iconst (-1), 1), (1, .istore 4, 2), (3, .iconst 0, 1), (4, .istore 5, 2), (6, .iconst (-1), 1), (7, .istore 6, 2), (9, .iconst 0, 1), (10, .istore 7, 2), (12, .iload 7, 2), (14, .aload_n 1, 1), (15, .getfield 24, 3), (18, .if_icmp .ge 41, 3), (21, .aload_n 1, 1), (22, .iload 7, 2), (24, .invokevirtual 30, 3), (27, .istore 8, 2), (29, .iload 8, 2), (31, .iload 4, 2), (33, .if_icmp .le 20, 3), (36, .iload 8, 2), (38, .istore 4, 2), (40, .iload 8, 2), (42, .iload_n 2, 1), (43, .if_icmp .gt 10, 3), (46, .iinc 5 1, 3)] = true := by decide +kernel
theorem dX4_shown_0 : decode cX4_shown 0 = .ok (.iconst (-1), 1) := dk_get dk_d01_115 0 rfl
theorem dX4_shown_1 : decode cX4_shown 1 = .ok (.istore 4, 2) := dk_get dk_d01_115 1 rfl
theorem dX4_shown_3 : decode cX4_shown 3 = .ok (.iconst 0, 1) := dk_get dk_d01_115 2 rfl
theorem dX4_shown_4 : decode cX4_shown 4 = .ok (.istore 5, 2) := dk_get dk_d01_115 3 rfl
theorem dX4_shown_6 : decode cX4_shown 6 = .ok (.iconst (-1), 1) := dk_get dk_d01_115 4 rfl
theorem dX4_shown_7 : decode cX4_shown 7 = .ok (.istore 6, 2) := dk_get dk_d01_115 5 rfl
theorem dX4_shown_9 : decode cX4_shown 9 = .ok (.iconst 0, 1) := dk_get dk_d01_115 6 rfl
theorem dX4_shown_10 : decode cX4_shown 10 = .ok (.istore 7, 2) := dk_get dk_d01_115 7 rfl
theorem dX4_shown_12 : decode cX4_shown 12 = .ok (.iload 7, 2) := dk_get dk_d01_115 8 rfl
theorem dX4_shown_14 : decode cX4_shown 14 = .ok (.aload_n 1, 1) := dk_get dk_d01_115 9 rfl
theorem dX4_shown_15 : decode cX4_shown 15 = .ok (.getfield 24, 3) := dk_get dk_d01_115 10 rfl
theorem dX4_shown_18 : decode cX4_shown 18 = .ok (.if_icmp .ge 41, 3) := dk_get dk_d01_115 11 rfl
theorem dX4_shown_21 : decode cX4_shown 21 = .ok (.aload_n 1, 1) := dk_get dk_d01_115 12 rfl
theorem dX4_shown_22 : decode cX4_shown 22 = .ok (.iload 7, 2) := dk_get dk_d01_115 13 rfl
theorem dX4_shown_24 : decode cX4_shown 24 = .ok (.invokevirtual 30, 3) := dk_get dk_d01_115 14 rfl
theorem dX4_shown_27 : decode cX4_shown 27 = .ok (.istore 8, 2) := dk_get dk_d01_115 15 rfl
theorem dX4_shown_29 : decode cX4_shown 29 = .ok (.iload 8, 2) := dk_get dk_d01_115 16 rfl
theorem dX4_shown_31 : decode cX4_shown 31 = .ok (.iload 4, 2) := dk_get dk_d01_115 17 rfl
theorem dX4_shown_33 : decode cX4_shown 33 = .ok (.if_icmp .le 20, 3) := dk_get dk_d01_115 18 rfl
theorem dX4_shown_36 : decode cX4_shown 36 = .ok (.iload 8, 2) := dk_get dk_d01_115 19 rfl
theorem dX4_shown_38 : decode cX4_shown 38 = .ok (.istore 4, 2) := dk_get dk_d01_115 20 rfl
theorem dX4_shown_40 : decode cX4_shown 40 = .ok (.iload 8, 2) := dk_get dk_d01_115 21 rfl
theorem dX4_shown_42 : decode cX4_shown 42 = .ok (.iload_n 2, 1) := dk_get dk_d01_115 22 rfl
theorem dX4_shown_43 : decode cX4_shown 43 = .ok (.if_icmp .gt 10, 3) := dk_get dk_d01_115 23 rfl
theorem dX4_shown_46 : decode cX4_shown 46 = .ok (.iinc 5 1, 3) := dk_get dk_d01_115 24 rfl
theorem dk_d01_116 : dkc cX4_shown [(49, .iload 7, 2), (51, .istore 6, 2), (53, .iinc 7 1, 3), (56, .goto (-44), 3), (59, .iload_n 3, 1), (60, .ifCond .eq 8, 3), (63, .iload 5, 2), (65, .goto 5, 3), (68, .iload 6, 2), (70, .ireturn, 1)] = true := by decide +kernel
theorem dX4_shown_49 : decode cX4_shown 49 = .ok (.iload 7, 2) := dk_get dk_d01_116 0 rfl
theorem dX4_shown_51 : decode cX4_shown 51 = .ok (.istore 6, 2) := dk_get dk_d01_116 1 rfl
theorem dX4_shown_53 : decode cX4_shown 53 = .ok (.iinc 7 1, 3) := dk_get dk_d01_116 2 rfl
theorem dX4_shown_56 : decode cX4_shown 56 = .ok (.goto (-44), 3) := dk_get dk_d01_116 3 rfl
theorem dX4_shown_59 : decode cX4_shown 59 = .ok (.iload_n 3, 1) := dk_get dk_d01_116 4 rfl
theorem dX4_shown_60 : decode cX4_shown 60 = .ok (.ifCond .eq 8, 3) := dk_get dk_d01_116 5 rfl
theorem dX4_shown_63 : decode cX4_shown 63 = .ok (.iload 5, 2) := dk_get dk_d01_116 6 rfl
theorem dX4_shown_65 : decode cX4_shown 65 = .ok (.goto 5, 3) := dk_get dk_d01_116 7 rfl
theorem dX4_shown_68 : decode cX4_shown 68 = .ok (.iload 6, 2) := dk_get dk_d01_116 8 rfl
theorem dX4_shown_70 : decode cX4_shown 70 = .ok (.ireturn, 1) := dk_get dk_d01_116 9 rfl
theorem dk_d01_117 : dkc cX4_together [(0, .iconst (-1), 1), (1, .istore_n 3, 1), (2, .iconst 0, 1), (3, .istore 4, 2), (5, .iconst 0, 1), (6, .istore 5, 2), (8, .iconst 0, 1), (9, .istore 6, 2), (11, .iload 6, 2), (13, .sipush 256, 3), (16, .if_icmp .ge 40, 3), (19, .aload_n 1, 1), (20, .iload 6, 2), (22, .invokestatic 63, 3), (25, .ifCond .eq 25, 3), (28, .iinc 5 1, 3), (31, .iload 6, 2), (33, .invokestatic 58, 3), (36, .iload_n 3, 1), (37, .if_icmp .le 13, 3), (40, .iload 6, 2), (42, .invokestatic 58, 3), (45, .istore_n 3, 1), (46, .iload 6, 2), (48, .istore 4, 2)] = true := by decide +kernel
theorem dX4_together_0 : decode cX4_together 0 = .ok (.iconst (-1), 1) := dk_get dk_d01_117 0 rfl
theorem dX4_together_1 : decode cX4_together 1 = .ok (.istore_n 3, 1) := dk_get dk_d01_117 1 rfl
theorem dX4_together_2 : decode cX4_together 2 = .ok (.iconst 0, 1) := dk_get dk_d01_117 2 rfl
theorem dX4_together_3 : decode cX4_together 3 = .ok (.istore 4, 2) := dk_get dk_d01_117 3 rfl
theorem dX4_together_5 : decode cX4_together 5 = .ok (.iconst 0, 1) := dk_get dk_d01_117 4 rfl
theorem dX4_together_6 : decode cX4_together 6 = .ok (.istore 5, 2) := dk_get dk_d01_117 5 rfl
theorem dX4_together_8 : decode cX4_together 8 = .ok (.iconst 0, 1) := dk_get dk_d01_117 6 rfl
theorem dX4_together_9 : decode cX4_together 9 = .ok (.istore 6, 2) := dk_get dk_d01_117 7 rfl
theorem dX4_together_11 : decode cX4_together 11 = .ok (.iload 6, 2) := dk_get dk_d01_117 8 rfl
theorem dX4_together_13 : decode cX4_together 13 = .ok (.sipush 256, 3) := dk_get dk_d01_117 9 rfl
theorem dX4_together_16 : decode cX4_together 16 = .ok (.if_icmp .ge 40, 3) := dk_get dk_d01_117 10 rfl
theorem dX4_together_19 : decode cX4_together 19 = .ok (.aload_n 1, 1) := dk_get dk_d01_117 11 rfl
theorem dX4_together_20 : decode cX4_together 20 = .ok (.iload 6, 2) := dk_get dk_d01_117 12 rfl
theorem dX4_together_22 : decode cX4_together 22 = .ok (.invokestatic 63, 3) := dk_get dk_d01_117 13 rfl
theorem dX4_together_25 : decode cX4_together 25 = .ok (.ifCond .eq 25, 3) := dk_get dk_d01_117 14 rfl
theorem dX4_together_28 : decode cX4_together 28 = .ok (.iinc 5 1, 3) := dk_get dk_d01_117 15 rfl
theorem dX4_together_31 : decode cX4_together 31 = .ok (.iload 6, 2) := dk_get dk_d01_117 16 rfl
theorem dX4_together_33 : decode cX4_together 33 = .ok (.invokestatic 58, 3) := dk_get dk_d01_117 17 rfl
theorem dX4_together_36 : decode cX4_together 36 = .ok (.iload_n 3, 1) := dk_get dk_d01_117 18 rfl
theorem dX4_together_37 : decode cX4_together 37 = .ok (.if_icmp .le 13, 3) := dk_get dk_d01_117 19 rfl
theorem dX4_together_40 : decode cX4_together 40 = .ok (.iload 6, 2) := dk_get dk_d01_117 20 rfl
theorem dX4_together_42 : decode cX4_together 42 = .ok (.invokestatic 58, 3) := dk_get dk_d01_117 21 rfl
theorem dX4_together_45 : decode cX4_together 45 = .ok (.istore_n 3, 1) := dk_get dk_d01_117 22 rfl
theorem dX4_together_46 : decode cX4_together 46 = .ok (.iload 6, 2) := dk_get dk_d01_117 23 rfl
theorem dX4_together_48 : decode cX4_together 48 = .ok (.istore 4, 2) := dk_get dk_d01_117 24 rfl
theorem dk_d01_118 : dkc cX4_together [(50, .iinc 6 1, 3), (53, .goto (-42), 3), (56, .iload_n 2, 1), (57, .ifCond .ne 5, 3), (60, .iload_n 3, 1), (61, .ireturn, 1), (62, .iload_n 2, 1), (63, .iconst 1, 1), (64, .if_icmp .ne 8, 3), (67, .iload 4, 2), (69, .goto 5, 3), (72, .iload 5, 2), (74, .ireturn, 1)] = true := by decide +kernel
theorem dX4_together_50 : decode cX4_together 50 = .ok (.iinc 6 1, 3) := dk_get dk_d01_118 0 rfl
theorem dX4_together_53 : decode cX4_together 53 = .ok (.goto (-42), 3) := dk_get dk_d01_118 1 rfl
theorem dX4_together_56 : decode cX4_together 56 = .ok (.iload_n 2, 1) := dk_get dk_d01_118 2 rfl
theorem dX4_together_57 : decode cX4_together 57 = .ok (.ifCond .ne 5, 3) := dk_get dk_d01_118 3 rfl
theorem dX4_together_60 : decode cX4_together 60 = .ok (.iload_n 3, 1) := dk_get dk_d01_118 4 rfl
theorem dX4_together_61 : decode cX4_together 61 = .ok (.ireturn, 1) := dk_get dk_d01_118 5 rfl
theorem dX4_together_62 : decode cX4_together 62 = .ok (.iload_n 2, 1) := dk_get dk_d01_118 6 rfl
theorem dX4_together_63 : decode cX4_together 63 = .ok (.iconst 1, 1) := dk_get dk_d01_118 7 rfl
theorem dX4_together_64 : decode cX4_together 64 = .ok (.if_icmp .ne 8, 3) := dk_get dk_d01_118 8 rfl
theorem dX4_together_67 : decode cX4_together 67 = .ok (.iload 4, 2) := dk_get dk_d01_118 9 rfl
theorem dX4_together_69 : decode cX4_together 69 = .ok (.goto 5, 3) := dk_get dk_d01_118 10 rfl
theorem dX4_together_72 : decode cX4_together 72 = .ok (.iload 5, 2) := dk_get dk_d01_118 11 rfl
theorem dX4_together_74 : decode cX4_together 74 = .ok (.ireturn, 1) := dk_get dk_d01_118 12 rfl
theorem dk_d01_119 : dkc cX4_goTogether [(0, .iconst 0, 1), (1, .istore_n 2, 1), (2, .iload_n 2, 1), (3, .aload_n 0, 1), (4, .getfield 24, 3), (7, .if_icmp .ge 42, 3), (10, .iconst 1, 1), (11, .aload_n 0, 1), (12, .iload_n 2, 1), (13, .invokevirtual 30, 3), (16, .sipush 256, 3), (19, .idiv, 1), (20, .ishl, 1), (21, .iconst 1, 1), (22, .aload_n 0, 1), (23, .iload_n 2, 1), (24, .invokevirtual 30, 3), (27, .sipush 256, 3), (30, .irem, 1), (31, .ishl, 1), (32, .ior, 1), (33, .istore_n 3, 1), (34, .iload_n 1, 1), (35, .iload_n 3, 1), (36, .iand, 1)] = true := by decide +kernel
theorem dX4_goTogether_0 : decode cX4_goTogether 0 = .ok (.iconst 0, 1) := dk_get dk_d01_119 0 rfl
theorem dX4_goTogether_1 : decode cX4_goTogether 1 = .ok (.istore_n 2, 1) := dk_get dk_d01_119 1 rfl
theorem dX4_goTogether_2 : decode cX4_goTogether 2 = .ok (.iload_n 2, 1) := dk_get dk_d01_119 2 rfl
theorem dX4_goTogether_3 : decode cX4_goTogether 3 = .ok (.aload_n 0, 1) := dk_get dk_d01_119 3 rfl
theorem dX4_goTogether_4 : decode cX4_goTogether 4 = .ok (.getfield 24, 3) := dk_get dk_d01_119 4 rfl
theorem dX4_goTogether_7 : decode cX4_goTogether 7 = .ok (.if_icmp .ge 42, 3) := dk_get dk_d01_119 5 rfl
theorem dX4_goTogether_10 : decode cX4_goTogether 10 = .ok (.iconst 1, 1) := dk_get dk_d01_119 6 rfl
theorem dX4_goTogether_11 : decode cX4_goTogether 11 = .ok (.aload_n 0, 1) := dk_get dk_d01_119 7 rfl
theorem dX4_goTogether_12 : decode cX4_goTogether 12 = .ok (.iload_n 2, 1) := dk_get dk_d01_119 8 rfl
theorem dX4_goTogether_13 : decode cX4_goTogether 13 = .ok (.invokevirtual 30, 3) := dk_get dk_d01_119 9 rfl
theorem dX4_goTogether_16 : decode cX4_goTogether 16 = .ok (.sipush 256, 3) := dk_get dk_d01_119 10 rfl
theorem dX4_goTogether_19 : decode cX4_goTogether 19 = .ok (.idiv, 1) := dk_get dk_d01_119 11 rfl
theorem dX4_goTogether_20 : decode cX4_goTogether 20 = .ok (.ishl, 1) := dk_get dk_d01_119 12 rfl
theorem dX4_goTogether_21 : decode cX4_goTogether 21 = .ok (.iconst 1, 1) := dk_get dk_d01_119 13 rfl
theorem dX4_goTogether_22 : decode cX4_goTogether 22 = .ok (.aload_n 0, 1) := dk_get dk_d01_119 14 rfl
theorem dX4_goTogether_23 : decode cX4_goTogether 23 = .ok (.iload_n 2, 1) := dk_get dk_d01_119 15 rfl
theorem dX4_goTogether_24 : decode cX4_goTogether 24 = .ok (.invokevirtual 30, 3) := dk_get dk_d01_119 16 rfl
theorem dX4_goTogether_27 : decode cX4_goTogether 27 = .ok (.sipush 256, 3) := dk_get dk_d01_119 17 rfl
theorem dX4_goTogether_30 : decode cX4_goTogether 30 = .ok (.irem, 1) := dk_get dk_d01_119 18 rfl
theorem dX4_goTogether_31 : decode cX4_goTogether 31 = .ok (.ishl, 1) := dk_get dk_d01_119 19 rfl
theorem dX4_goTogether_32 : decode cX4_goTogether 32 = .ok (.ior, 1) := dk_get dk_d01_119 20 rfl
theorem dX4_goTogether_33 : decode cX4_goTogether 33 = .ok (.istore_n 3, 1) := dk_get dk_d01_119 21 rfl
theorem dX4_goTogether_34 : decode cX4_goTogether 34 = .ok (.iload_n 1, 1) := dk_get dk_d01_119 22 rfl
theorem dX4_goTogether_35 : decode cX4_goTogether 35 = .ok (.iload_n 3, 1) := dk_get dk_d01_119 23 rfl
theorem dX4_goTogether_36 : decode cX4_goTogether 36 = .ok (.iand, 1) := dk_get dk_d01_119 24 rfl
theorem dk_d01_120 : dkc cX4_goTogether [(37, .iload_n 3, 1), (38, .if_icmp .ne 5, 3), (41, .iconst 0, 1), (42, .ireturn, 1), (43, .iinc 2 1, 3), (46, .goto (-44), 3), (49, .iconst 1, 1), (50, .ireturn, 1)] = true := by decide +kernel
theorem dX4_goTogether_37 : decode cX4_goTogether 37 = .ok (.iload_n 3, 1) := dk_get dk_d01_120 0 rfl
theorem dX4_goTogether_38 : decode cX4_goTogether 38 = .ok (.if_icmp .ne 5, 3) := dk_get dk_d01_120 1 rfl
theorem dX4_goTogether_41 : decode cX4_goTogether 41 = .ok (.iconst 0, 1) := dk_get dk_d01_120 2 rfl
theorem dX4_goTogether_42 : decode cX4_goTogether 42 = .ok (.ireturn, 1) := dk_get dk_d01_120 3 rfl
theorem dX4_goTogether_43 : decode cX4_goTogether 43 = .ok (.iinc 2 1, 3) := dk_get dk_d01_120 4 rfl
theorem dX4_goTogether_46 : decode cX4_goTogether 46 = .ok (.goto (-44), 3) := dk_get dk_d01_120 5 rfl
theorem dX4_goTogether_49 : decode cX4_goTogether 49 = .ok (.iconst 1, 1) := dk_get dk_d01_120 6 rfl
theorem dX4_goTogether_50 : decode cX4_goTogether 50 = .ok (.ireturn, 1) := dk_get dk_d01_120 7 rfl
theorem dk_d01_121 : dkc cX4_rowsOfAll [(0, .aload_n 0, 1), (1, .getfield 15, 3), (4, .iconst 0, 1), (5, .invokestatic 18, 3), (8, .iconst 0, 1), (9, .istore_n 2, 1), (10, .iload_n 2, 1), (11, .aload_n 1, 1), (12, .getfield 24, 3), (15, .if_icmp .ge 49, 3), (18, .aload_n 1, 1), (19, .iload_n 2, 1), (20, .invokevirtual 30, 3), (23, .sipush 256, 3), (26, .irem, 1), (27, .istore_n 3, 1), (28, .iload_n 3, 1), (29, .ifCond .lt 29, 3), (32, .iload_n 3, 1), (33, .bipush 8, 2), (35, .if_icmp .ge 23, 3), (38, .aload_n 0, 1), (39, .getfield 15, 3), (42, .iload_n 3, 1), (43, .dup2, 1)] = true := by decide +kernel
theorem dX4_rowsOfAll_0 : decode cX4_rowsOfAll 0 = .ok (.aload_n 0, 1) := dk_get dk_d01_121 0 rfl
theorem dX4_rowsOfAll_1 : decode cX4_rowsOfAll 1 = .ok (.getfield 15, 3) := dk_get dk_d01_121 1 rfl
theorem dX4_rowsOfAll_4 : decode cX4_rowsOfAll 4 = .ok (.iconst 0, 1) := dk_get dk_d01_121 2 rfl
theorem dX4_rowsOfAll_5 : decode cX4_rowsOfAll 5 = .ok (.invokestatic 18, 3) := dk_get dk_d01_121 3 rfl
theorem dX4_rowsOfAll_8 : decode cX4_rowsOfAll 8 = .ok (.iconst 0, 1) := dk_get dk_d01_121 4 rfl
theorem dX4_rowsOfAll_9 : decode cX4_rowsOfAll 9 = .ok (.istore_n 2, 1) := dk_get dk_d01_121 5 rfl
theorem dX4_rowsOfAll_10 : decode cX4_rowsOfAll 10 = .ok (.iload_n 2, 1) := dk_get dk_d01_121 6 rfl
theorem dX4_rowsOfAll_11 : decode cX4_rowsOfAll 11 = .ok (.aload_n 1, 1) := dk_get dk_d01_121 7 rfl
theorem dX4_rowsOfAll_12 : decode cX4_rowsOfAll 12 = .ok (.getfield 24, 3) := dk_get dk_d01_121 8 rfl
theorem dX4_rowsOfAll_15 : decode cX4_rowsOfAll 15 = .ok (.if_icmp .ge 49, 3) := dk_get dk_d01_121 9 rfl
theorem dX4_rowsOfAll_18 : decode cX4_rowsOfAll 18 = .ok (.aload_n 1, 1) := dk_get dk_d01_121 10 rfl
theorem dX4_rowsOfAll_19 : decode cX4_rowsOfAll 19 = .ok (.iload_n 2, 1) := dk_get dk_d01_121 11 rfl
theorem dX4_rowsOfAll_20 : decode cX4_rowsOfAll 20 = .ok (.invokevirtual 30, 3) := dk_get dk_d01_121 12 rfl
theorem dX4_rowsOfAll_23 : decode cX4_rowsOfAll 23 = .ok (.sipush 256, 3) := dk_get dk_d01_121 13 rfl
theorem dX4_rowsOfAll_26 : decode cX4_rowsOfAll 26 = .ok (.irem, 1) := dk_get dk_d01_121 14 rfl
theorem dX4_rowsOfAll_27 : decode cX4_rowsOfAll 27 = .ok (.istore_n 3, 1) := dk_get dk_d01_121 15 rfl
theorem dX4_rowsOfAll_28 : decode cX4_rowsOfAll 28 = .ok (.iload_n 3, 1) := dk_get dk_d01_121 16 rfl
theorem dX4_rowsOfAll_29 : decode cX4_rowsOfAll 29 = .ok (.ifCond .lt 29, 3) := dk_get dk_d01_121 17 rfl
theorem dX4_rowsOfAll_32 : decode cX4_rowsOfAll 32 = .ok (.iload_n 3, 1) := dk_get dk_d01_121 18 rfl
theorem dX4_rowsOfAll_33 : decode cX4_rowsOfAll 33 = .ok (.bipush 8, 2) := dk_get dk_d01_121 19 rfl
theorem dX4_rowsOfAll_35 : decode cX4_rowsOfAll 35 = .ok (.if_icmp .ge 23, 3) := dk_get dk_d01_121 20 rfl
theorem dX4_rowsOfAll_38 : decode cX4_rowsOfAll 38 = .ok (.aload_n 0, 1) := dk_get dk_d01_121 21 rfl
theorem dX4_rowsOfAll_39 : decode cX4_rowsOfAll 39 = .ok (.getfield 15, 3) := dk_get dk_d01_121 22 rfl
theorem dX4_rowsOfAll_42 : decode cX4_rowsOfAll 42 = .ok (.iload_n 3, 1) := dk_get dk_d01_121 23 rfl
theorem dX4_rowsOfAll_43 : decode cX4_rowsOfAll 43 = .ok (.dup2, 1) := dk_get dk_d01_121 24 rfl
theorem dk_d01_122 : dkc cX4_rowsOfAll [(44, .iaload, 1), (45, .iconst 1, 1), (46, .aload_n 1, 1), (47, .iload_n 2, 1), (48, .invokevirtual 30, 3), (51, .sipush 256, 3), (54, .idiv, 1), (55, .ishl, 1), (56, .ior, 1), (57, .iastore, 1), (58, .iinc 2 1, 3), (61, .goto (-51), 3), (64, .aload_n 0, 1), (65, .getfield 9, 3), (68, .iconst 0, 1), (69, .invokestatic 18, 3), (72, .aload_n 0, 1), (73, .getfield 9, 3), (76, .iconst 0, 1), (77, .iconst 1, 1), (78, .iastore, 1), (79, .sipush 255, 3), (82, .istore_n 2, 1), (83, .iconst 0, 1), (84, .istore_n 3, 1)] = true := by decide +kernel
theorem dX4_rowsOfAll_44 : decode cX4_rowsOfAll 44 = .ok (.iaload, 1) := dk_get dk_d01_122 0 rfl
theorem dX4_rowsOfAll_45 : decode cX4_rowsOfAll 45 = .ok (.iconst 1, 1) := dk_get dk_d01_122 1 rfl
theorem dX4_rowsOfAll_46 : decode cX4_rowsOfAll 46 = .ok (.aload_n 1, 1) := dk_get dk_d01_122 2 rfl
theorem dX4_rowsOfAll_47 : decode cX4_rowsOfAll 47 = .ok (.iload_n 2, 1) := dk_get dk_d01_122 3 rfl
theorem dX4_rowsOfAll_48 : decode cX4_rowsOfAll 48 = .ok (.invokevirtual 30, 3) := dk_get dk_d01_122 4 rfl
theorem dX4_rowsOfAll_51 : decode cX4_rowsOfAll 51 = .ok (.sipush 256, 3) := dk_get dk_d01_122 5 rfl
theorem dX4_rowsOfAll_54 : decode cX4_rowsOfAll 54 = .ok (.idiv, 1) := dk_get dk_d01_122 6 rfl
theorem dX4_rowsOfAll_55 : decode cX4_rowsOfAll 55 = .ok (.ishl, 1) := dk_get dk_d01_122 7 rfl
theorem dX4_rowsOfAll_56 : decode cX4_rowsOfAll 56 = .ok (.ior, 1) := dk_get dk_d01_122 8 rfl
theorem dX4_rowsOfAll_57 : decode cX4_rowsOfAll 57 = .ok (.iastore, 1) := dk_get dk_d01_122 9 rfl
theorem dX4_rowsOfAll_58 : decode cX4_rowsOfAll 58 = .ok (.iinc 2 1, 3) := dk_get dk_d01_122 10 rfl
theorem dX4_rowsOfAll_61 : decode cX4_rowsOfAll 61 = .ok (.goto (-51), 3) := dk_get dk_d01_122 11 rfl
theorem dX4_rowsOfAll_64 : decode cX4_rowsOfAll 64 = .ok (.aload_n 0, 1) := dk_get dk_d01_122 12 rfl
theorem dX4_rowsOfAll_65 : decode cX4_rowsOfAll 65 = .ok (.getfield 9, 3) := dk_get dk_d01_122 13 rfl
theorem dX4_rowsOfAll_68 : decode cX4_rowsOfAll 68 = .ok (.iconst 0, 1) := dk_get dk_d01_122 14 rfl
theorem dX4_rowsOfAll_69 : decode cX4_rowsOfAll 69 = .ok (.invokestatic 18, 3) := dk_get dk_d01_122 15 rfl
theorem dX4_rowsOfAll_72 : decode cX4_rowsOfAll 72 = .ok (.aload_n 0, 1) := dk_get dk_d01_122 16 rfl
theorem dX4_rowsOfAll_73 : decode cX4_rowsOfAll 73 = .ok (.getfield 9, 3) := dk_get dk_d01_122 17 rfl
theorem dX4_rowsOfAll_76 : decode cX4_rowsOfAll 76 = .ok (.iconst 0, 1) := dk_get dk_d01_122 18 rfl
theorem dX4_rowsOfAll_77 : decode cX4_rowsOfAll 77 = .ok (.iconst 1, 1) := dk_get dk_d01_122 19 rfl
theorem dX4_rowsOfAll_78 : decode cX4_rowsOfAll 78 = .ok (.iastore, 1) := dk_get dk_d01_122 20 rfl
theorem dX4_rowsOfAll_79 : decode cX4_rowsOfAll 79 = .ok (.sipush 255, 3) := dk_get dk_d01_122 21 rfl
theorem dX4_rowsOfAll_82 : decode cX4_rowsOfAll 82 = .ok (.istore_n 2, 1) := dk_get dk_d01_122 22 rfl
theorem dX4_rowsOfAll_83 : decode cX4_rowsOfAll 83 = .ok (.iconst 0, 1) := dk_get dk_d01_122 23 rfl
theorem dX4_rowsOfAll_84 : decode cX4_rowsOfAll 84 = .ok (.istore_n 3, 1) := dk_get dk_d01_122 24 rfl
theorem dk_d01_123 : dkc cX4_rowsOfAll [(85, .iload_n 3, 1), (86, .iload_n 2, 1), (87, .if_icmp .ge 68, 3), (90, .iconst 0, 1), (91, .istore 4, 2), (93, .iload 4, 2), (95, .bipush 8, 2), (97, .if_icmp .ge 52, 3), (100, .iload_n 3, 1), (101, .iload 4, 2), (103, .ishr, 1), (104, .iconst 1, 1), (105, .iand, 1), (106, .ifCond .ne 37, 3), (109, .aload_n 0, 1), (110, .getfield 15, 3), (113, .iload 4, 2), (115, .iaload, 1), (116, .iload_n 3, 1), (117, .iconst (-1), 1), (118, .ixor, 1), (119, .iand, 1), (120, .ifCond .ne 23, 3), (123, .aload_n 0, 1), (124, .getfield 9, 3)] = true := by decide +kernel
theorem dX4_rowsOfAll_85 : decode cX4_rowsOfAll 85 = .ok (.iload_n 3, 1) := dk_get dk_d01_123 0 rfl
theorem dX4_rowsOfAll_86 : decode cX4_rowsOfAll 86 = .ok (.iload_n 2, 1) := dk_get dk_d01_123 1 rfl
theorem dX4_rowsOfAll_87 : decode cX4_rowsOfAll 87 = .ok (.if_icmp .ge 68, 3) := dk_get dk_d01_123 2 rfl
theorem dX4_rowsOfAll_90 : decode cX4_rowsOfAll 90 = .ok (.iconst 0, 1) := dk_get dk_d01_123 3 rfl
theorem dX4_rowsOfAll_91 : decode cX4_rowsOfAll 91 = .ok (.istore 4, 2) := dk_get dk_d01_123 4 rfl
theorem dX4_rowsOfAll_93 : decode cX4_rowsOfAll 93 = .ok (.iload 4, 2) := dk_get dk_d01_123 5 rfl
theorem dX4_rowsOfAll_95 : decode cX4_rowsOfAll 95 = .ok (.bipush 8, 2) := dk_get dk_d01_123 6 rfl
theorem dX4_rowsOfAll_97 : decode cX4_rowsOfAll 97 = .ok (.if_icmp .ge 52, 3) := dk_get dk_d01_123 7 rfl
theorem dX4_rowsOfAll_100 : decode cX4_rowsOfAll 100 = .ok (.iload_n 3, 1) := dk_get dk_d01_123 8 rfl
theorem dX4_rowsOfAll_101 : decode cX4_rowsOfAll 101 = .ok (.iload 4, 2) := dk_get dk_d01_123 9 rfl
theorem dX4_rowsOfAll_103 : decode cX4_rowsOfAll 103 = .ok (.ishr, 1) := dk_get dk_d01_123 10 rfl
theorem dX4_rowsOfAll_104 : decode cX4_rowsOfAll 104 = .ok (.iconst 1, 1) := dk_get dk_d01_123 11 rfl
theorem dX4_rowsOfAll_105 : decode cX4_rowsOfAll 105 = .ok (.iand, 1) := dk_get dk_d01_123 12 rfl
theorem dX4_rowsOfAll_106 : decode cX4_rowsOfAll 106 = .ok (.ifCond .ne 37, 3) := dk_get dk_d01_123 13 rfl
theorem dX4_rowsOfAll_109 : decode cX4_rowsOfAll 109 = .ok (.aload_n 0, 1) := dk_get dk_d01_123 14 rfl
theorem dX4_rowsOfAll_110 : decode cX4_rowsOfAll 110 = .ok (.getfield 15, 3) := dk_get dk_d01_123 15 rfl
theorem dX4_rowsOfAll_113 : decode cX4_rowsOfAll 113 = .ok (.iload 4, 2) := dk_get dk_d01_123 16 rfl
theorem dX4_rowsOfAll_115 : decode cX4_rowsOfAll 115 = .ok (.iaload, 1) := dk_get dk_d01_123 17 rfl
theorem dX4_rowsOfAll_116 : decode cX4_rowsOfAll 116 = .ok (.iload_n 3, 1) := dk_get dk_d01_123 18 rfl
theorem dX4_rowsOfAll_117 : decode cX4_rowsOfAll 117 = .ok (.iconst (-1), 1) := dk_get dk_d01_123 19 rfl
theorem dX4_rowsOfAll_118 : decode cX4_rowsOfAll 118 = .ok (.ixor, 1) := dk_get dk_d01_123 20 rfl
theorem dX4_rowsOfAll_119 : decode cX4_rowsOfAll 119 = .ok (.iand, 1) := dk_get dk_d01_123 21 rfl
theorem dX4_rowsOfAll_120 : decode cX4_rowsOfAll 120 = .ok (.ifCond .ne 23, 3) := dk_get dk_d01_123 22 rfl
theorem dX4_rowsOfAll_123 : decode cX4_rowsOfAll 123 = .ok (.aload_n 0, 1) := dk_get dk_d01_123 23 rfl
theorem dX4_rowsOfAll_124 : decode cX4_rowsOfAll 124 = .ok (.getfield 9, 3) := dk_get dk_d01_123 24 rfl
theorem dk_d01_124 : dkc cX4_rowsOfAll [(127, .iload_n 3, 1), (128, .iconst 1, 1), (129, .iload 4, 2), (131, .ishl, 1), (132, .ior, 1), (133, .dup2, 1), (134, .iaload, 1), (135, .aload_n 0, 1), (136, .getfield 9, 3), (139, .iload_n 3, 1), (140, .iaload, 1), (141, .iadd, 1), (142, .iastore, 1), (143, .iinc 4 1, 3), (146, .goto (-53), 3), (149, .iinc 3 1, 3), (152, .goto (-67), 3), (155, .aload_n 0, 1), (156, .getfield 9, 3), (159, .iload_n 2, 1), (160, .iaload, 1), (161, .ireturn, 1)] = true := by decide +kernel
theorem dX4_rowsOfAll_127 : decode cX4_rowsOfAll 127 = .ok (.iload_n 3, 1) := dk_get dk_d01_124 0 rfl
theorem dX4_rowsOfAll_128 : decode cX4_rowsOfAll 128 = .ok (.iconst 1, 1) := dk_get dk_d01_124 1 rfl
theorem dX4_rowsOfAll_129 : decode cX4_rowsOfAll 129 = .ok (.iload 4, 2) := dk_get dk_d01_124 2 rfl
theorem dX4_rowsOfAll_131 : decode cX4_rowsOfAll 131 = .ok (.ishl, 1) := dk_get dk_d01_124 3 rfl
theorem dX4_rowsOfAll_132 : decode cX4_rowsOfAll 132 = .ok (.ior, 1) := dk_get dk_d01_124 4 rfl
theorem dX4_rowsOfAll_133 : decode cX4_rowsOfAll 133 = .ok (.dup2, 1) := dk_get dk_d01_124 5 rfl
theorem dX4_rowsOfAll_134 : decode cX4_rowsOfAll 134 = .ok (.iaload, 1) := dk_get dk_d01_124 6 rfl
theorem dX4_rowsOfAll_135 : decode cX4_rowsOfAll 135 = .ok (.aload_n 0, 1) := dk_get dk_d01_124 7 rfl
theorem dX4_rowsOfAll_136 : decode cX4_rowsOfAll 136 = .ok (.getfield 9, 3) := dk_get dk_d01_124 8 rfl
theorem dX4_rowsOfAll_139 : decode cX4_rowsOfAll 139 = .ok (.iload_n 3, 1) := dk_get dk_d01_124 9 rfl
theorem dX4_rowsOfAll_140 : decode cX4_rowsOfAll 140 = .ok (.iaload, 1) := dk_get dk_d01_124 10 rfl
theorem dX4_rowsOfAll_141 : decode cX4_rowsOfAll 141 = .ok (.iadd, 1) := dk_get dk_d01_124 11 rfl
theorem dX4_rowsOfAll_142 : decode cX4_rowsOfAll 142 = .ok (.iastore, 1) := dk_get dk_d01_124 12 rfl
theorem dX4_rowsOfAll_143 : decode cX4_rowsOfAll 143 = .ok (.iinc 4 1, 3) := dk_get dk_d01_124 13 rfl
theorem dX4_rowsOfAll_146 : decode cX4_rowsOfAll 146 = .ok (.goto (-53), 3) := dk_get dk_d01_124 14 rfl
theorem dX4_rowsOfAll_149 : decode cX4_rowsOfAll 149 = .ok (.iinc 3 1, 3) := dk_get dk_d01_124 15 rfl
theorem dX4_rowsOfAll_152 : decode cX4_rowsOfAll 152 = .ok (.goto (-67), 3) := dk_get dk_d01_124 16 rfl
theorem dX4_rowsOfAll_155 : decode cX4_rowsOfAll 155 = .ok (.aload_n 0, 1) := dk_get dk_d01_124 17 rfl
theorem dX4_rowsOfAll_156 : decode cX4_rowsOfAll 156 = .ok (.getfield 9, 3) := dk_get dk_d01_124 18 rfl
theorem dX4_rowsOfAll_159 : decode cX4_rowsOfAll 159 = .ok (.iload_n 2, 1) := dk_get dk_d01_124 19 rfl
theorem dX4_rowsOfAll_160 : decode cX4_rowsOfAll 160 = .ok (.iaload, 1) := dk_get dk_d01_124 20 rfl
theorem dX4_rowsOfAll_161 : decode cX4_rowsOfAll 161 = .ok (.ireturn, 1) := dk_get dk_d01_124 21 rfl
theorem dk_d01_125 : dkc cX5_init [(0, .aload_n 0, 1), (1, .invokespecial 3, 3), (4, .aload_n 0, 1), (5, .sipush 400, 3), (8, .newarray .int, 2), (10, .putfield 9, 3), (13, .aload_n 0, 1), (14, .iconst 0, 1), (15, .putfield 15, 3), (18, .aload_n 0, 1), (19, .iconst 0, 1), (20, .putfield 19, 3), (23, .aload_n 0, 1), (24, .iconst 0, 1), (25, .putfield 22, 3), (28, .aload_n 0, 1), (29, .iconst 0, 1), (30, .putfield 25, 3), (33, .aload_n 0, 1), (34, .iconst 2, 1), (35, .putfield 28, 3), (38, .aload_n 0, 1), (39, .iconst 0, 1), (40, .putfield 31, 3), (43, .aload_n 0, 1)] = true := by decide +kernel
theorem dX5_init_0 : decode cX5_init 0 = .ok (.aload_n 0, 1) := dk_get dk_d01_125 0 rfl
theorem dX5_init_1 : decode cX5_init 1 = .ok (.invokespecial 3, 3) := dk_get dk_d01_125 1 rfl
theorem dX5_init_4 : decode cX5_init 4 = .ok (.aload_n 0, 1) := dk_get dk_d01_125 2 rfl
theorem dX5_init_5 : decode cX5_init 5 = .ok (.sipush 400, 3) := dk_get dk_d01_125 3 rfl
theorem dX5_init_8 : decode cX5_init 8 = .ok (.newarray .int, 2) := dk_get dk_d01_125 4 rfl
theorem dX5_init_10 : decode cX5_init 10 = .ok (.putfield 9, 3) := dk_get dk_d01_125 5 rfl
theorem dX5_init_13 : decode cX5_init 13 = .ok (.aload_n 0, 1) := dk_get dk_d01_125 6 rfl
theorem dX5_init_14 : decode cX5_init 14 = .ok (.iconst 0, 1) := dk_get dk_d01_125 7 rfl
theorem dX5_init_15 : decode cX5_init 15 = .ok (.putfield 15, 3) := dk_get dk_d01_125 8 rfl
theorem dX5_init_18 : decode cX5_init 18 = .ok (.aload_n 0, 1) := dk_get dk_d01_125 9 rfl
theorem dX5_init_19 : decode cX5_init 19 = .ok (.iconst 0, 1) := dk_get dk_d01_125 10 rfl
theorem dX5_init_20 : decode cX5_init 20 = .ok (.putfield 19, 3) := dk_get dk_d01_125 11 rfl
theorem dX5_init_23 : decode cX5_init 23 = .ok (.aload_n 0, 1) := dk_get dk_d01_125 12 rfl
theorem dX5_init_24 : decode cX5_init 24 = .ok (.iconst 0, 1) := dk_get dk_d01_125 13 rfl
theorem dX5_init_25 : decode cX5_init 25 = .ok (.putfield 22, 3) := dk_get dk_d01_125 14 rfl
theorem dX5_init_28 : decode cX5_init 28 = .ok (.aload_n 0, 1) := dk_get dk_d01_125 15 rfl
theorem dX5_init_29 : decode cX5_init 29 = .ok (.iconst 0, 1) := dk_get dk_d01_125 16 rfl
theorem dX5_init_30 : decode cX5_init 30 = .ok (.putfield 25, 3) := dk_get dk_d01_125 17 rfl
theorem dX5_init_33 : decode cX5_init 33 = .ok (.aload_n 0, 1) := dk_get dk_d01_125 18 rfl
theorem dX5_init_34 : decode cX5_init 34 = .ok (.iconst 2, 1) := dk_get dk_d01_125 19 rfl
theorem dX5_init_35 : decode cX5_init 35 = .ok (.putfield 28, 3) := dk_get dk_d01_125 20 rfl
theorem dX5_init_38 : decode cX5_init 38 = .ok (.aload_n 0, 1) := dk_get dk_d01_125 21 rfl
theorem dX5_init_39 : decode cX5_init 39 = .ok (.iconst 0, 1) := dk_get dk_d01_125 22 rfl
theorem dX5_init_40 : decode cX5_init 40 = .ok (.putfield 31, 3) := dk_get dk_d01_125 23 rfl
theorem dX5_init_43 : decode cX5_init 43 = .ok (.aload_n 0, 1) := dk_get dk_d01_125 24 rfl
theorem dk_d01_126 : dkc cX5_init [(44, .iconst 0, 1), (45, .putfield 34, 3), (48, .aload_n 0, 1), (49, .iconst (-1), 1), (50, .putfield 37, 3), (53, .aload_n 0, 1), (54, .iconst 0, 1), (55, .putfield 40, 3), (58, .aload_n 0, 1), (59, .bipush 80, 2), (61, .newarray .int, 2), (63, .putfield 43, 3), (66, .aload_n 0, 1), (67, .iconst 0, 1), (68, .putfield 46, 3), (71, .aload_n 0, 1), (72, .sipush 400, 3), (75, .newarray .int, 2), (77, .putfield 49, 3), (80, .aload_n 0, 1), (81, .iconst 0, 1), (82, .putfield 52, 3), (85, .return_, 1)] = true := by decide +kernel
theorem dX5_init_44 : decode cX5_init 44 = .ok (.iconst 0, 1) := dk_get dk_d01_126 0 rfl
theorem dX5_init_45 : decode cX5_init 45 = .ok (.putfield 34, 3) := dk_get dk_d01_126 1 rfl
theorem dX5_init_48 : decode cX5_init 48 = .ok (.aload_n 0, 1) := dk_get dk_d01_126 2 rfl
theorem dX5_init_49 : decode cX5_init 49 = .ok (.iconst (-1), 1) := dk_get dk_d01_126 3 rfl
theorem dX5_init_50 : decode cX5_init 50 = .ok (.putfield 37, 3) := dk_get dk_d01_126 4 rfl
theorem dX5_init_53 : decode cX5_init 53 = .ok (.aload_n 0, 1) := dk_get dk_d01_126 5 rfl
theorem dX5_init_54 : decode cX5_init 54 = .ok (.iconst 0, 1) := dk_get dk_d01_126 6 rfl
theorem dX5_init_55 : decode cX5_init 55 = .ok (.putfield 40, 3) := dk_get dk_d01_126 7 rfl
theorem dX5_init_58 : decode cX5_init 58 = .ok (.aload_n 0, 1) := dk_get dk_d01_126 8 rfl
theorem dX5_init_59 : decode cX5_init 59 = .ok (.bipush 80, 2) := dk_get dk_d01_126 9 rfl
theorem dX5_init_61 : decode cX5_init 61 = .ok (.newarray .int, 2) := dk_get dk_d01_126 10 rfl
theorem dX5_init_63 : decode cX5_init 63 = .ok (.putfield 43, 3) := dk_get dk_d01_126 11 rfl
theorem dX5_init_66 : decode cX5_init 66 = .ok (.aload_n 0, 1) := dk_get dk_d01_126 12 rfl
theorem dX5_init_67 : decode cX5_init 67 = .ok (.iconst 0, 1) := dk_get dk_d01_126 13 rfl
theorem dX5_init_68 : decode cX5_init 68 = .ok (.putfield 46, 3) := dk_get dk_d01_126 14 rfl
theorem dX5_init_71 : decode cX5_init 71 = .ok (.aload_n 0, 1) := dk_get dk_d01_126 15 rfl
theorem dX5_init_72 : decode cX5_init 72 = .ok (.sipush 400, 3) := dk_get dk_d01_126 16 rfl
theorem dX5_init_75 : decode cX5_init 75 = .ok (.newarray .int, 2) := dk_get dk_d01_126 17 rfl
theorem dX5_init_77 : decode cX5_init 77 = .ok (.putfield 49, 3) := dk_get dk_d01_126 18 rfl
theorem dX5_init_80 : decode cX5_init 80 = .ok (.aload_n 0, 1) := dk_get dk_d01_126 19 rfl
theorem dX5_init_81 : decode cX5_init 81 = .ok (.iconst 0, 1) := dk_get dk_d01_126 20 rfl
theorem dX5_init_82 : decode cX5_init 82 = .ok (.putfield 52, 3) := dk_get dk_d01_126 21 rfl
theorem dX5_init_85 : decode cX5_init 85 = .ok (.return_, 1) := dk_get dk_d01_126 22 rfl
theorem dk_d01_127 : dkc cX5_take [(0, .bipush 24, 2), (2, .istore_n 2, 1), (3, .iload_n 2, 1), (4, .ifCond .lt 45, 3), (7, .aload_n 0, 1), (8, .getfield 15, 3), (11, .sipush 400, 3), (14, .if_icmp .ge 29, 3), (17, .aload_n 0, 1), (18, .getfield 9, 3), (21, .aload_n 0, 1), (22, .getfield 15, 3), (25, .iload_n 1, 1), (26, .iload_n 2, 1), (27, .iushr, 1), (28, .sipush 255, 3), (31, .iand, 1), (32, .iastore, 1), (33, .aload_n 0, 1), (34, .dup, 1), (35, .getfield 15, 3), (38, .iconst 1, 1), (39, .iadd, 1), (40, .putfield 15, 3), (43, .iinc 2 (-8), 3)] = true := by decide +kernel
theorem dX5_take_0 : decode cX5_take 0 = .ok (.bipush 24, 2) := dk_get dk_d01_127 0 rfl
theorem dX5_take_2 : decode cX5_take 2 = .ok (.istore_n 2, 1) := dk_get dk_d01_127 1 rfl
theorem dX5_take_3 : decode cX5_take 3 = .ok (.iload_n 2, 1) := dk_get dk_d01_127 2 rfl
theorem dX5_take_4 : decode cX5_take 4 = .ok (.ifCond .lt 45, 3) := dk_get dk_d01_127 3 rfl
theorem dX5_take_7 : decode cX5_take 7 = .ok (.aload_n 0, 1) := dk_get dk_d01_127 4 rfl
theorem dX5_take_8 : decode cX5_take 8 = .ok (.getfield 15, 3) := dk_get dk_d01_127 5 rfl
theorem dX5_take_11 : decode cX5_take 11 = .ok (.sipush 400, 3) := dk_get dk_d01_127 6 rfl
theorem dX5_take_14 : decode cX5_take 14 = .ok (.if_icmp .ge 29, 3) := dk_get dk_d01_127 7 rfl
theorem dX5_take_17 : decode cX5_take 17 = .ok (.aload_n 0, 1) := dk_get dk_d01_127 8 rfl
theorem dX5_take_18 : decode cX5_take 18 = .ok (.getfield 9, 3) := dk_get dk_d01_127 9 rfl
theorem dX5_take_21 : decode cX5_take 21 = .ok (.aload_n 0, 1) := dk_get dk_d01_127 10 rfl
theorem dX5_take_22 : decode cX5_take 22 = .ok (.getfield 15, 3) := dk_get dk_d01_127 11 rfl
theorem dX5_take_25 : decode cX5_take 25 = .ok (.iload_n 1, 1) := dk_get dk_d01_127 12 rfl
theorem dX5_take_26 : decode cX5_take 26 = .ok (.iload_n 2, 1) := dk_get dk_d01_127 13 rfl
theorem dX5_take_27 : decode cX5_take 27 = .ok (.iushr, 1) := dk_get dk_d01_127 14 rfl
theorem dX5_take_28 : decode cX5_take 28 = .ok (.sipush 255, 3) := dk_get dk_d01_127 15 rfl
theorem dX5_take_31 : decode cX5_take 31 = .ok (.iand, 1) := dk_get dk_d01_127 16 rfl
theorem dX5_take_32 : decode cX5_take 32 = .ok (.iastore, 1) := dk_get dk_d01_127 17 rfl
theorem dX5_take_33 : decode cX5_take 33 = .ok (.aload_n 0, 1) := dk_get dk_d01_127 18 rfl
theorem dX5_take_34 : decode cX5_take 34 = .ok (.dup, 1) := dk_get dk_d01_127 19 rfl
theorem dX5_take_35 : decode cX5_take 35 = .ok (.getfield 15, 3) := dk_get dk_d01_127 20 rfl
theorem dX5_take_38 : decode cX5_take 38 = .ok (.iconst 1, 1) := dk_get dk_d01_127 21 rfl
theorem dX5_take_39 : decode cX5_take 39 = .ok (.iadd, 1) := dk_get dk_d01_127 22 rfl
theorem dX5_take_40 : decode cX5_take 40 = .ok (.putfield 15, 3) := dk_get dk_d01_127 23 rfl
theorem dX5_take_43 : decode cX5_take 43 = .ok (.iinc 2 (-8), 3) := dk_get dk_d01_127 24 rfl
theorem dk_d01_128 : dkc cX5_take [(46, .goto (-43), 3), (49, .return_, 1)] = true := by decide +kernel
theorem dX5_take_46 : decode cX5_take 46 = .ok (.goto (-43), 3) := dk_get dk_d01_128 0 rfl
theorem dX5_take_49 : decode cX5_take 49 = .ok (.return_, 1) := dk_get dk_d01_128 1 rfl
theorem dk_d01_129 : dkc cX5_readTape [(0, .aload_n 0, 1), (1, .aload_n 0, 1), (2, .getfield 15, 3), (5, .putfield 19, 3), (8, .aload_n 0, 1), (9, .iconst 0, 1), (10, .putfield 15, 3), (13, .aload_n 0, 1), (14, .iconst 0, 1), (15, .putfield 25, 3), (18, .aload_n 0, 1), (19, .iconst 0, 1), (20, .putfield 46, 3), (23, .aload_n 0, 1), (24, .iconst 0, 1), (25, .putfield 52, 3), (28, .aload_n 0, 1), (29, .iload_n 2, 1), (30, .putfield 40, 3), (33, .aload_n 0, 1), (34, .iconst 0, 1), (35, .putfield 34, 3), (38, .aload_n 0, 1), (39, .iconst (-1), 1), (40, .putfield 37, 3)] = true := by decide +kernel
theorem dX5_readTape_0 : decode cX5_readTape 0 = .ok (.aload_n 0, 1) := dk_get dk_d01_129 0 rfl
theorem dX5_readTape_1 : decode cX5_readTape 1 = .ok (.aload_n 0, 1) := dk_get dk_d01_129 1 rfl
theorem dX5_readTape_2 : decode cX5_readTape 2 = .ok (.getfield 15, 3) := dk_get dk_d01_129 2 rfl
theorem dX5_readTape_5 : decode cX5_readTape 5 = .ok (.putfield 19, 3) := dk_get dk_d01_129 3 rfl
theorem dX5_readTape_8 : decode cX5_readTape 8 = .ok (.aload_n 0, 1) := dk_get dk_d01_129 4 rfl
theorem dX5_readTape_9 : decode cX5_readTape 9 = .ok (.iconst 0, 1) := dk_get dk_d01_129 5 rfl
theorem dX5_readTape_10 : decode cX5_readTape 10 = .ok (.putfield 15, 3) := dk_get dk_d01_129 6 rfl
theorem dX5_readTape_13 : decode cX5_readTape 13 = .ok (.aload_n 0, 1) := dk_get dk_d01_129 7 rfl
theorem dX5_readTape_14 : decode cX5_readTape 14 = .ok (.iconst 0, 1) := dk_get dk_d01_129 8 rfl
theorem dX5_readTape_15 : decode cX5_readTape 15 = .ok (.putfield 25, 3) := dk_get dk_d01_129 9 rfl
theorem dX5_readTape_18 : decode cX5_readTape 18 = .ok (.aload_n 0, 1) := dk_get dk_d01_129 10 rfl
theorem dX5_readTape_19 : decode cX5_readTape 19 = .ok (.iconst 0, 1) := dk_get dk_d01_129 11 rfl
theorem dX5_readTape_20 : decode cX5_readTape 20 = .ok (.putfield 46, 3) := dk_get dk_d01_129 12 rfl
theorem dX5_readTape_23 : decode cX5_readTape 23 = .ok (.aload_n 0, 1) := dk_get dk_d01_129 13 rfl
theorem dX5_readTape_24 : decode cX5_readTape 24 = .ok (.iconst 0, 1) := dk_get dk_d01_129 14 rfl
theorem dX5_readTape_25 : decode cX5_readTape 25 = .ok (.putfield 52, 3) := dk_get dk_d01_129 15 rfl
theorem dX5_readTape_28 : decode cX5_readTape 28 = .ok (.aload_n 0, 1) := dk_get dk_d01_129 16 rfl
theorem dX5_readTape_29 : decode cX5_readTape 29 = .ok (.iload_n 2, 1) := dk_get dk_d01_129 17 rfl
theorem dX5_readTape_30 : decode cX5_readTape 30 = .ok (.putfield 40, 3) := dk_get dk_d01_129 18 rfl
theorem dX5_readTape_33 : decode cX5_readTape 33 = .ok (.aload_n 0, 1) := dk_get dk_d01_129 19 rfl
theorem dX5_readTape_34 : decode cX5_readTape 34 = .ok (.iconst 0, 1) := dk_get dk_d01_129 20 rfl
theorem dX5_readTape_35 : decode cX5_readTape 35 = .ok (.putfield 34, 3) := dk_get dk_d01_129 21 rfl
theorem dX5_readTape_38 : decode cX5_readTape 38 = .ok (.aload_n 0, 1) := dk_get dk_d01_129 22 rfl
theorem dX5_readTape_39 : decode cX5_readTape 39 = .ok (.iconst (-1), 1) := dk_get dk_d01_129 23 rfl
theorem dX5_readTape_40 : decode cX5_readTape 40 = .ok (.putfield 37, 3) := dk_get dk_d01_129 24 rfl
theorem dk_d01_130 : dkc cX5_readTape [(43, .iload_n 1, 1), (44, .ifCond .lt 8, 3), (47, .iload_n 1, 1), (48, .iconst 4, 1), (49, .if_icmp .lt 5, 3), (52, .aconst_null, 1), (53, .areturn, 1), (54, .aload_n 0, 1), (55, .invokevirtual 55, 3), (58, .iconst 1, 1), (59, .istore_n 3, 1), (60, .iconst 0, 1), (61, .istore 4, 2), (63, .iload 4, 2), (65, .bipush 16, 2), (67, .if_icmp .gt 76, 3), (70, .iload_n 3, 1), (71, .ifCond .eq 72, 3), (74, .aload_n 0, 1), (75, .getfield 28, 3), (78, .iconst 2, 1), (79, .if_icmp .eq 64, 3), (82, .aload_n 0, 1), (83, .iload_n 1, 1), (84, .invokevirtual 58, 3)] = true := by decide +kernel
theorem dX5_readTape_43 : decode cX5_readTape 43 = .ok (.iload_n 1, 1) := dk_get dk_d01_130 0 rfl
theorem dX5_readTape_44 : decode cX5_readTape 44 = .ok (.ifCond .lt 8, 3) := dk_get dk_d01_130 1 rfl
theorem dX5_readTape_47 : decode cX5_readTape 47 = .ok (.iload_n 1, 1) := dk_get dk_d01_130 2 rfl
theorem dX5_readTape_48 : decode cX5_readTape 48 = .ok (.iconst 4, 1) := dk_get dk_d01_130 3 rfl
theorem dX5_readTape_49 : decode cX5_readTape 49 = .ok (.if_icmp .lt 5, 3) := dk_get dk_d01_130 4 rfl
theorem dX5_readTape_52 : decode cX5_readTape 52 = .ok (.aconst_null, 1) := dk_get dk_d01_130 5 rfl
theorem dX5_readTape_53 : decode cX5_readTape 53 = .ok (.areturn, 1) := dk_get dk_d01_130 6 rfl
theorem dX5_readTape_54 : decode cX5_readTape 54 = .ok (.aload_n 0, 1) := dk_get dk_d01_130 7 rfl
theorem dX5_readTape_55 : decode cX5_readTape 55 = .ok (.invokevirtual 55, 3) := dk_get dk_d01_130 8 rfl
theorem dX5_readTape_58 : decode cX5_readTape 58 = .ok (.iconst 1, 1) := dk_get dk_d01_130 9 rfl
theorem dX5_readTape_59 : decode cX5_readTape 59 = .ok (.istore_n 3, 1) := dk_get dk_d01_130 10 rfl
theorem dX5_readTape_60 : decode cX5_readTape 60 = .ok (.iconst 0, 1) := dk_get dk_d01_130 11 rfl
theorem dX5_readTape_61 : decode cX5_readTape 61 = .ok (.istore 4, 2) := dk_get dk_d01_130 12 rfl
theorem dX5_readTape_63 : decode cX5_readTape 63 = .ok (.iload 4, 2) := dk_get dk_d01_130 13 rfl
theorem dX5_readTape_65 : decode cX5_readTape 65 = .ok (.bipush 16, 2) := dk_get dk_d01_130 14 rfl
theorem dX5_readTape_67 : decode cX5_readTape 67 = .ok (.if_icmp .gt 76, 3) := dk_get dk_d01_130 15 rfl
theorem dX5_readTape_70 : decode cX5_readTape 70 = .ok (.iload_n 3, 1) := dk_get dk_d01_130 16 rfl
theorem dX5_readTape_71 : decode cX5_readTape 71 = .ok (.ifCond .eq 72, 3) := dk_get dk_d01_130 17 rfl
theorem dX5_readTape_74 : decode cX5_readTape 74 = .ok (.aload_n 0, 1) := dk_get dk_d01_130 18 rfl
theorem dX5_readTape_75 : decode cX5_readTape 75 = .ok (.getfield 28, 3) := dk_get dk_d01_130 19 rfl
theorem dX5_readTape_78 : decode cX5_readTape 78 = .ok (.iconst 2, 1) := dk_get dk_d01_130 20 rfl
theorem dX5_readTape_79 : decode cX5_readTape 79 = .ok (.if_icmp .eq 64, 3) := dk_get dk_d01_130 21 rfl
theorem dX5_readTape_82 : decode cX5_readTape 82 = .ok (.aload_n 0, 1) := dk_get dk_d01_130 22 rfl
theorem dX5_readTape_83 : decode cX5_readTape 83 = .ok (.iload_n 1, 1) := dk_get dk_d01_130 23 rfl
theorem dX5_readTape_84 : decode cX5_readTape 84 = .ok (.invokevirtual 58, 3) := dk_get dk_d01_130 24 rfl
theorem dk_d01_131 : dkc cX5_readTape [(87, .ifCond .eq 38, 3), (90, .iload_n 1, 1), (91, .ifCond .ne 13, 3), (94, .aload_n 0, 1), (95, .invokevirtual 62, 3), (98, .ifCond .eq 27, 3), (101, .goto 11, 3), (104, .aload_n 0, 1), (105, .iload_n 1, 1), (106, .invokevirtual 66, 3), (109, .ifCond .eq 16, 3), (112, .aload_n 0, 1), (113, .bipush 59, 2), (115, .invokevirtual 69, 3), (118, .ifCond .eq 7, 3), (121, .iconst 1, 1), (122, .goto 4, 3), (125, .iconst 0, 1), (126, .istore_n 3, 1), (127, .aload_n 0, 1), (128, .dup, 1), (129, .getfield 46, 3), (132, .iconst 1, 1), (133, .iadd, 1), (134, .putfield 46, 3)] = true := by decide +kernel
theorem dX5_readTape_87 : decode cX5_readTape 87 = .ok (.ifCond .eq 38, 3) := dk_get dk_d01_131 0 rfl
theorem dX5_readTape_90 : decode cX5_readTape 90 = .ok (.iload_n 1, 1) := dk_get dk_d01_131 1 rfl
theorem dX5_readTape_91 : decode cX5_readTape 91 = .ok (.ifCond .ne 13, 3) := dk_get dk_d01_131 2 rfl
theorem dX5_readTape_94 : decode cX5_readTape 94 = .ok (.aload_n 0, 1) := dk_get dk_d01_131 3 rfl
theorem dX5_readTape_95 : decode cX5_readTape 95 = .ok (.invokevirtual 62, 3) := dk_get dk_d01_131 4 rfl
theorem dX5_readTape_98 : decode cX5_readTape 98 = .ok (.ifCond .eq 27, 3) := dk_get dk_d01_131 5 rfl
theorem dX5_readTape_101 : decode cX5_readTape 101 = .ok (.goto 11, 3) := dk_get dk_d01_131 6 rfl
theorem dX5_readTape_104 : decode cX5_readTape 104 = .ok (.aload_n 0, 1) := dk_get dk_d01_131 7 rfl
theorem dX5_readTape_105 : decode cX5_readTape 105 = .ok (.iload_n 1, 1) := dk_get dk_d01_131 8 rfl
theorem dX5_readTape_106 : decode cX5_readTape 106 = .ok (.invokevirtual 66, 3) := dk_get dk_d01_131 9 rfl
theorem dX5_readTape_109 : decode cX5_readTape 109 = .ok (.ifCond .eq 16, 3) := dk_get dk_d01_131 10 rfl
theorem dX5_readTape_112 : decode cX5_readTape 112 = .ok (.aload_n 0, 1) := dk_get dk_d01_131 11 rfl
theorem dX5_readTape_113 : decode cX5_readTape 113 = .ok (.bipush 59, 2) := dk_get dk_d01_131 12 rfl
theorem dX5_readTape_115 : decode cX5_readTape 115 = .ok (.invokevirtual 69, 3) := dk_get dk_d01_131 13 rfl
theorem dX5_readTape_118 : decode cX5_readTape 118 = .ok (.ifCond .eq 7, 3) := dk_get dk_d01_131 14 rfl
theorem dX5_readTape_121 : decode cX5_readTape 121 = .ok (.iconst 1, 1) := dk_get dk_d01_131 15 rfl
theorem dX5_readTape_122 : decode cX5_readTape 122 = .ok (.goto 4, 3) := dk_get dk_d01_131 16 rfl
theorem dX5_readTape_125 : decode cX5_readTape 125 = .ok (.iconst 0, 1) := dk_get dk_d01_131 17 rfl
theorem dX5_readTape_126 : decode cX5_readTape 126 = .ok (.istore_n 3, 1) := dk_get dk_d01_131 18 rfl
theorem dX5_readTape_127 : decode cX5_readTape 127 = .ok (.aload_n 0, 1) := dk_get dk_d01_131 19 rfl
theorem dX5_readTape_128 : decode cX5_readTape 128 = .ok (.dup, 1) := dk_get dk_d01_131 20 rfl
theorem dX5_readTape_129 : decode cX5_readTape 129 = .ok (.getfield 46, 3) := dk_get dk_d01_131 21 rfl
theorem dX5_readTape_132 : decode cX5_readTape 132 = .ok (.iconst 1, 1) := dk_get dk_d01_131 22 rfl
theorem dX5_readTape_133 : decode cX5_readTape 133 = .ok (.iadd, 1) := dk_get dk_d01_131 23 rfl
theorem dX5_readTape_134 : decode cX5_readTape 134 = .ok (.putfield 46, 3) := dk_get dk_d01_131 24 rfl
theorem dk_d01_132 : dkc cX5_readTape [(137, .iinc 4 1, 3), (140, .goto (-77), 3), (143, .iload_n 3, 1), (144, .ifCond .ne 5, 3), (147, .aconst_null, 1), (148, .areturn, 1), (149, .new 72, 3), (152, .dup, 1), (153, .aload_n 0, 1), (154, .getfield 43, 3), (157, .aload_n 0, 1), (158, .getfield 46, 3), (161, .iconst 5, 1), (162, .imul, 1), (163, .invokestatic 74, 3), (166, .aload_n 0, 1), (167, .getfield 46, 3), (170, .aload_n 0, 1), (171, .getfield 49, 3), (174, .aload_n 0, 1), (175, .getfield 52, 3), (178, .invokestatic 74, 3), (181, .invokespecial 80, 3), (184, .areturn, 1)] = true := by decide +kernel
theorem dX5_readTape_137 : decode cX5_readTape 137 = .ok (.iinc 4 1, 3) := dk_get dk_d01_132 0 rfl
theorem dX5_readTape_140 : decode cX5_readTape 140 = .ok (.goto (-77), 3) := dk_get dk_d01_132 1 rfl
theorem dX5_readTape_143 : decode cX5_readTape 143 = .ok (.iload_n 3, 1) := dk_get dk_d01_132 2 rfl
theorem dX5_readTape_144 : decode cX5_readTape 144 = .ok (.ifCond .ne 5, 3) := dk_get dk_d01_132 3 rfl
theorem dX5_readTape_147 : decode cX5_readTape 147 = .ok (.aconst_null, 1) := dk_get dk_d01_132 4 rfl
theorem dX5_readTape_148 : decode cX5_readTape 148 = .ok (.areturn, 1) := dk_get dk_d01_132 5 rfl
theorem dX5_readTape_149 : decode cX5_readTape 149 = .ok (.new 72, 3) := dk_get dk_d01_132 6 rfl
theorem dX5_readTape_152 : decode cX5_readTape 152 = .ok (.dup, 1) := dk_get dk_d01_132 7 rfl
theorem dX5_readTape_153 : decode cX5_readTape 153 = .ok (.aload_n 0, 1) := dk_get dk_d01_132 8 rfl
theorem dX5_readTape_154 : decode cX5_readTape 154 = .ok (.getfield 43, 3) := dk_get dk_d01_132 9 rfl
theorem dX5_readTape_157 : decode cX5_readTape 157 = .ok (.aload_n 0, 1) := dk_get dk_d01_132 10 rfl
theorem dX5_readTape_158 : decode cX5_readTape 158 = .ok (.getfield 46, 3) := dk_get dk_d01_132 11 rfl
theorem dX5_readTape_161 : decode cX5_readTape 161 = .ok (.iconst 5, 1) := dk_get dk_d01_132 12 rfl
theorem dX5_readTape_162 : decode cX5_readTape 162 = .ok (.imul, 1) := dk_get dk_d01_132 13 rfl
theorem dX5_readTape_163 : decode cX5_readTape 163 = .ok (.invokestatic 74, 3) := dk_get dk_d01_132 14 rfl
theorem dX5_readTape_166 : decode cX5_readTape 166 = .ok (.aload_n 0, 1) := dk_get dk_d01_132 15 rfl
theorem dX5_readTape_167 : decode cX5_readTape 167 = .ok (.getfield 46, 3) := dk_get dk_d01_132 16 rfl
theorem dX5_readTape_170 : decode cX5_readTape 170 = .ok (.aload_n 0, 1) := dk_get dk_d01_132 17 rfl
theorem dX5_readTape_171 : decode cX5_readTape 171 = .ok (.getfield 49, 3) := dk_get dk_d01_132 18 rfl
theorem dX5_readTape_174 : decode cX5_readTape 174 = .ok (.aload_n 0, 1) := dk_get dk_d01_132 19 rfl
theorem dX5_readTape_175 : decode cX5_readTape 175 = .ok (.getfield 52, 3) := dk_get dk_d01_132 20 rfl
theorem dX5_readTape_178 : decode cX5_readTape 178 = .ok (.invokestatic 74, 3) := dk_get dk_d01_132 21 rfl
theorem dX5_readTape_181 : decode cX5_readTape 181 = .ok (.invokespecial 80, 3) := dk_get dk_d01_132 22 rfl
theorem dX5_readTape_184 : decode cX5_readTape 184 = .ok (.areturn, 1) := dk_get dk_d01_132 23 rfl
theorem dk_d01_133 : dkc cX5_step [(0, .aload_n 0, 1), (1, .getfield 25, 3), (4, .aload_n 0, 1), (5, .getfield 19, 3), (8, .if_icmp .ge 44, 3), (11, .aload_n 0, 1), (12, .getfield 9, 3), (15, .aload_n 0, 1), (16, .getfield 25, 3), (19, .iaload, 1), (20, .bipush 32, 2), (22, .if_icmp .eq 17, 3), (25, .aload_n 0, 1), (26, .getfield 9, 3), (29, .aload_n 0, 1), (30, .getfield 25, 3), (33, .iaload, 1), (34, .bipush 10, 2), (36, .if_icmp .ne 16, 3), (39, .aload_n 0, 1), (40, .dup, 1), (41, .getfield 25, 3), (44, .iconst 1, 1), (45, .iadd, 1), (46, .putfield 25, 3)] = true := by decide +kernel
theorem dX5_step_0 : decode cX5_step 0 = .ok (.aload_n 0, 1) := dk_get dk_d01_133 0 rfl
theorem dX5_step_1 : decode cX5_step 1 = .ok (.getfield 25, 3) := dk_get dk_d01_133 1 rfl
theorem dX5_step_4 : decode cX5_step 4 = .ok (.aload_n 0, 1) := dk_get dk_d01_133 2 rfl
theorem dX5_step_5 : decode cX5_step 5 = .ok (.getfield 19, 3) := dk_get dk_d01_133 3 rfl
theorem dX5_step_8 : decode cX5_step 8 = .ok (.if_icmp .ge 44, 3) := dk_get dk_d01_133 4 rfl
theorem dX5_step_11 : decode cX5_step 11 = .ok (.aload_n 0, 1) := dk_get dk_d01_133 5 rfl
theorem dX5_step_12 : decode cX5_step 12 = .ok (.getfield 9, 3) := dk_get dk_d01_133 6 rfl
theorem dX5_step_15 : decode cX5_step 15 = .ok (.aload_n 0, 1) := dk_get dk_d01_133 7 rfl
theorem dX5_step_16 : decode cX5_step 16 = .ok (.getfield 25, 3) := dk_get dk_d01_133 8 rfl
theorem dX5_step_19 : decode cX5_step 19 = .ok (.iaload, 1) := dk_get dk_d01_133 9 rfl
theorem dX5_step_20 : decode cX5_step 20 = .ok (.bipush 32, 2) := dk_get dk_d01_133 10 rfl
theorem dX5_step_22 : decode cX5_step 22 = .ok (.if_icmp .eq 17, 3) := dk_get dk_d01_133 11 rfl
theorem dX5_step_25 : decode cX5_step 25 = .ok (.aload_n 0, 1) := dk_get dk_d01_133 12 rfl
theorem dX5_step_26 : decode cX5_step 26 = .ok (.getfield 9, 3) := dk_get dk_d01_133 13 rfl
theorem dX5_step_29 : decode cX5_step 29 = .ok (.aload_n 0, 1) := dk_get dk_d01_133 14 rfl
theorem dX5_step_30 : decode cX5_step 30 = .ok (.getfield 25, 3) := dk_get dk_d01_133 15 rfl
theorem dX5_step_33 : decode cX5_step 33 = .ok (.iaload, 1) := dk_get dk_d01_133 16 rfl
theorem dX5_step_34 : decode cX5_step 34 = .ok (.bipush 10, 2) := dk_get dk_d01_133 17 rfl
theorem dX5_step_36 : decode cX5_step 36 = .ok (.if_icmp .ne 16, 3) := dk_get dk_d01_133 18 rfl
theorem dX5_step_39 : decode cX5_step 39 = .ok (.aload_n 0, 1) := dk_get dk_d01_133 19 rfl
theorem dX5_step_40 : decode cX5_step 40 = .ok (.dup, 1) := dk_get dk_d01_133 20 rfl
theorem dX5_step_41 : decode cX5_step 41 = .ok (.getfield 25, 3) := dk_get dk_d01_133 21 rfl
theorem dX5_step_44 : decode cX5_step 44 = .ok (.iconst 1, 1) := dk_get dk_d01_133 22 rfl
theorem dX5_step_45 : decode cX5_step 45 = .ok (.iadd, 1) := dk_get dk_d01_133 23 rfl
theorem dX5_step_46 : decode cX5_step 46 = .ok (.putfield 25, 3) := dk_get dk_d01_133 24 rfl
theorem dk_d01_134 : dkc cX5_step [(49, .goto (-49), 3), (52, .aload_n 0, 1), (53, .aload_n 0, 1), (54, .getfield 25, 3), (57, .putfield 22, 3), (60, .aload_n 0, 1), (61, .getfield 25, 3), (64, .aload_n 0, 1), (65, .getfield 19, 3), (68, .if_icmp .lt 11, 3), (71, .aload_n 0, 1), (72, .iconst 2, 1), (73, .putfield 28, 3), (76, .goto 239, 3), (79, .aload_n 0, 1), (80, .getfield 9, 3), (83, .aload_n 0, 1), (84, .getfield 25, 3), (87, .iaload, 1), (88, .invokestatic 83, 3), (91, .ifCond .eq 61, 3), (94, .aload_n 0, 1), (95, .getfield 25, 3), (98, .aload_n 0, 1), (99, .getfield 19, 3)] = true := by decide +kernel
theorem dX5_step_49 : decode cX5_step 49 = .ok (.goto (-49), 3) := dk_get dk_d01_134 0 rfl
theorem dX5_step_52 : decode cX5_step 52 = .ok (.aload_n 0, 1) := dk_get dk_d01_134 1 rfl
theorem dX5_step_53 : decode cX5_step 53 = .ok (.aload_n 0, 1) := dk_get dk_d01_134 2 rfl
theorem dX5_step_54 : decode cX5_step 54 = .ok (.getfield 25, 3) := dk_get dk_d01_134 3 rfl
theorem dX5_step_57 : decode cX5_step 57 = .ok (.putfield 22, 3) := dk_get dk_d01_134 4 rfl
theorem dX5_step_60 : decode cX5_step 60 = .ok (.aload_n 0, 1) := dk_get dk_d01_134 5 rfl
theorem dX5_step_61 : decode cX5_step 61 = .ok (.getfield 25, 3) := dk_get dk_d01_134 6 rfl
theorem dX5_step_64 : decode cX5_step 64 = .ok (.aload_n 0, 1) := dk_get dk_d01_134 7 rfl
theorem dX5_step_65 : decode cX5_step 65 = .ok (.getfield 19, 3) := dk_get dk_d01_134 8 rfl
theorem dX5_step_68 : decode cX5_step 68 = .ok (.if_icmp .lt 11, 3) := dk_get dk_d01_134 9 rfl
theorem dX5_step_71 : decode cX5_step 71 = .ok (.aload_n 0, 1) := dk_get dk_d01_134 10 rfl
theorem dX5_step_72 : decode cX5_step 72 = .ok (.iconst 2, 1) := dk_get dk_d01_134 11 rfl
theorem dX5_step_73 : decode cX5_step 73 = .ok (.putfield 28, 3) := dk_get dk_d01_134 12 rfl
theorem dX5_step_76 : decode cX5_step 76 = .ok (.goto 239, 3) := dk_get dk_d01_134 13 rfl
theorem dX5_step_79 : decode cX5_step 79 = .ok (.aload_n 0, 1) := dk_get dk_d01_134 14 rfl
theorem dX5_step_80 : decode cX5_step 80 = .ok (.getfield 9, 3) := dk_get dk_d01_134 15 rfl
theorem dX5_step_83 : decode cX5_step 83 = .ok (.aload_n 0, 1) := dk_get dk_d01_134 16 rfl
theorem dX5_step_84 : decode cX5_step 84 = .ok (.getfield 25, 3) := dk_get dk_d01_134 17 rfl
theorem dX5_step_87 : decode cX5_step 87 = .ok (.iaload, 1) := dk_get dk_d01_134 18 rfl
theorem dX5_step_88 : decode cX5_step 88 = .ok (.invokestatic 83, 3) := dk_get dk_d01_134 19 rfl
theorem dX5_step_91 : decode cX5_step 91 = .ok (.ifCond .eq 61, 3) := dk_get dk_d01_134 20 rfl
theorem dX5_step_94 : decode cX5_step 94 = .ok (.aload_n 0, 1) := dk_get dk_d01_134 21 rfl
theorem dX5_step_95 : decode cX5_step 95 = .ok (.getfield 25, 3) := dk_get dk_d01_134 22 rfl
theorem dX5_step_98 : decode cX5_step 98 = .ok (.aload_n 0, 1) := dk_get dk_d01_134 23 rfl
theorem dX5_step_99 : decode cX5_step 99 = .ok (.getfield 19, 3) := dk_get dk_d01_134 24 rfl
theorem dk_d01_135 : dkc cX5_step [(102, .if_icmp .ge 31, 3), (105, .aload_n 0, 1), (106, .getfield 9, 3), (109, .aload_n 0, 1), (110, .getfield 25, 3), (113, .iaload, 1), (114, .invokestatic 83, 3), (117, .ifCond .eq 16, 3), (120, .aload_n 0, 1), (121, .dup, 1), (122, .getfield 25, 3), (125, .iconst 1, 1), (126, .iadd, 1), (127, .putfield 25, 3), (130, .goto (-36), 3), (133, .aload_n 0, 1), (134, .aload_n 0, 1), (135, .aload_n 0, 1), (136, .getfield 22, 3), (139, .aload_n 0, 1), (140, .getfield 25, 3), (143, .invokevirtual 86, 3), (146, .putfield 28, 3), (149, .goto 166, 3), (152, .aload_n 0, 1)] = true := by decide +kernel
theorem dX5_step_102 : decode cX5_step 102 = .ok (.if_icmp .ge 31, 3) := dk_get dk_d01_135 0 rfl
theorem dX5_step_105 : decode cX5_step 105 = .ok (.aload_n 0, 1) := dk_get dk_d01_135 1 rfl
theorem dX5_step_106 : decode cX5_step 106 = .ok (.getfield 9, 3) := dk_get dk_d01_135 2 rfl
theorem dX5_step_109 : decode cX5_step 109 = .ok (.aload_n 0, 1) := dk_get dk_d01_135 3 rfl
theorem dX5_step_110 : decode cX5_step 110 = .ok (.getfield 25, 3) := dk_get dk_d01_135 4 rfl
theorem dX5_step_113 : decode cX5_step 113 = .ok (.iaload, 1) := dk_get dk_d01_135 5 rfl
theorem dX5_step_114 : decode cX5_step 114 = .ok (.invokestatic 83, 3) := dk_get dk_d01_135 6 rfl
theorem dX5_step_117 : decode cX5_step 117 = .ok (.ifCond .eq 16, 3) := dk_get dk_d01_135 7 rfl
theorem dX5_step_120 : decode cX5_step 120 = .ok (.aload_n 0, 1) := dk_get dk_d01_135 8 rfl
theorem dX5_step_121 : decode cX5_step 121 = .ok (.dup, 1) := dk_get dk_d01_135 9 rfl
theorem dX5_step_122 : decode cX5_step 122 = .ok (.getfield 25, 3) := dk_get dk_d01_135 10 rfl
theorem dX5_step_125 : decode cX5_step 125 = .ok (.iconst 1, 1) := dk_get dk_d01_135 11 rfl
theorem dX5_step_126 : decode cX5_step 126 = .ok (.iadd, 1) := dk_get dk_d01_135 12 rfl
theorem dX5_step_127 : decode cX5_step 127 = .ok (.putfield 25, 3) := dk_get dk_d01_135 13 rfl
theorem dX5_step_130 : decode cX5_step 130 = .ok (.goto (-36), 3) := dk_get dk_d01_135 14 rfl
theorem dX5_step_133 : decode cX5_step 133 = .ok (.aload_n 0, 1) := dk_get dk_d01_135 15 rfl
theorem dX5_step_134 : decode cX5_step 134 = .ok (.aload_n 0, 1) := dk_get dk_d01_135 16 rfl
theorem dX5_step_135 : decode cX5_step 135 = .ok (.aload_n 0, 1) := dk_get dk_d01_135 17 rfl
theorem dX5_step_136 : decode cX5_step 136 = .ok (.getfield 22, 3) := dk_get dk_d01_135 18 rfl
theorem dX5_step_139 : decode cX5_step 139 = .ok (.aload_n 0, 1) := dk_get dk_d01_135 19 rfl
theorem dX5_step_140 : decode cX5_step 140 = .ok (.getfield 25, 3) := dk_get dk_d01_135 20 rfl
theorem dX5_step_143 : decode cX5_step 143 = .ok (.invokevirtual 86, 3) := dk_get dk_d01_135 21 rfl
theorem dX5_step_146 : decode cX5_step 146 = .ok (.putfield 28, 3) := dk_get dk_d01_135 22 rfl
theorem dX5_step_149 : decode cX5_step 149 = .ok (.goto 166, 3) := dk_get dk_d01_135 23 rfl
theorem dX5_step_152 : decode cX5_step 152 = .ok (.aload_n 0, 1) := dk_get dk_d01_135 24 rfl
theorem dk_d01_136 : dkc cX5_step [(153, .getfield 9, 3), (156, .aload_n 0, 1), (157, .getfield 25, 3), (160, .iaload, 1), (161, .invokestatic 90, 3), (164, .ifCond .eq 96, 3), (167, .aload_n 0, 1), (168, .iconst 0, 1), (169, .putfield 31, 3), (172, .aload_n 0, 1), (173, .getfield 25, 3), (176, .aload_n 0, 1), (177, .getfield 19, 3), (180, .if_icmp .ge 55, 3), (183, .aload_n 0, 1), (184, .getfield 9, 3), (187, .aload_n 0, 1), (188, .getfield 25, 3), (191, .iaload, 1), (192, .invokestatic 90, 3), (195, .ifCond .eq 40, 3), (198, .aload_n 0, 1), (199, .aload_n 0, 1), (200, .getfield 31, 3), (203, .bipush 10, 2)] = true := by decide +kernel
theorem dX5_step_153 : decode cX5_step 153 = .ok (.getfield 9, 3) := dk_get dk_d01_136 0 rfl
theorem dX5_step_156 : decode cX5_step 156 = .ok (.aload_n 0, 1) := dk_get dk_d01_136 1 rfl
theorem dX5_step_157 : decode cX5_step 157 = .ok (.getfield 25, 3) := dk_get dk_d01_136 2 rfl
theorem dX5_step_160 : decode cX5_step 160 = .ok (.iaload, 1) := dk_get dk_d01_136 3 rfl
theorem dX5_step_161 : decode cX5_step 161 = .ok (.invokestatic 90, 3) := dk_get dk_d01_136 4 rfl
theorem dX5_step_164 : decode cX5_step 164 = .ok (.ifCond .eq 96, 3) := dk_get dk_d01_136 5 rfl
theorem dX5_step_167 : decode cX5_step 167 = .ok (.aload_n 0, 1) := dk_get dk_d01_136 6 rfl
theorem dX5_step_168 : decode cX5_step 168 = .ok (.iconst 0, 1) := dk_get dk_d01_136 7 rfl
theorem dX5_step_169 : decode cX5_step 169 = .ok (.putfield 31, 3) := dk_get dk_d01_136 8 rfl
theorem dX5_step_172 : decode cX5_step 172 = .ok (.aload_n 0, 1) := dk_get dk_d01_136 9 rfl
theorem dX5_step_173 : decode cX5_step 173 = .ok (.getfield 25, 3) := dk_get dk_d01_136 10 rfl
theorem dX5_step_176 : decode cX5_step 176 = .ok (.aload_n 0, 1) := dk_get dk_d01_136 11 rfl
theorem dX5_step_177 : decode cX5_step 177 = .ok (.getfield 19, 3) := dk_get dk_d01_136 12 rfl
theorem dX5_step_180 : decode cX5_step 180 = .ok (.if_icmp .ge 55, 3) := dk_get dk_d01_136 13 rfl
theorem dX5_step_183 : decode cX5_step 183 = .ok (.aload_n 0, 1) := dk_get dk_d01_136 14 rfl
theorem dX5_step_184 : decode cX5_step 184 = .ok (.getfield 9, 3) := dk_get dk_d01_136 15 rfl
theorem dX5_step_187 : decode cX5_step 187 = .ok (.aload_n 0, 1) := dk_get dk_d01_136 16 rfl
theorem dX5_step_188 : decode cX5_step 188 = .ok (.getfield 25, 3) := dk_get dk_d01_136 17 rfl
theorem dX5_step_191 : decode cX5_step 191 = .ok (.iaload, 1) := dk_get dk_d01_136 18 rfl
theorem dX5_step_192 : decode cX5_step 192 = .ok (.invokestatic 90, 3) := dk_get dk_d01_136 19 rfl
theorem dX5_step_195 : decode cX5_step 195 = .ok (.ifCond .eq 40, 3) := dk_get dk_d01_136 20 rfl
theorem dX5_step_198 : decode cX5_step 198 = .ok (.aload_n 0, 1) := dk_get dk_d01_136 21 rfl
theorem dX5_step_199 : decode cX5_step 199 = .ok (.aload_n 0, 1) := dk_get dk_d01_136 22 rfl
theorem dX5_step_200 : decode cX5_step 200 = .ok (.getfield 31, 3) := dk_get dk_d01_136 23 rfl
theorem dX5_step_203 : decode cX5_step 203 = .ok (.bipush 10, 2) := dk_get dk_d01_136 24 rfl
theorem dk_d01_137 : dkc cX5_step [(205, .imul, 1), (206, .aload_n 0, 1), (207, .getfield 9, 3), (210, .aload_n 0, 1), (211, .getfield 25, 3), (214, .iaload, 1), (215, .iadd, 1), (216, .bipush 48, 2), (218, .isub, 1), (219, .putfield 31, 3), (222, .aload_n 0, 1), (223, .dup, 1), (224, .getfield 25, 3), (227, .iconst 1, 1), (228, .iadd, 1), (229, .putfield 25, 3), (232, .goto (-60), 3), (235, .aload_n 0, 1), (236, .aload_n 0, 1), (237, .getfield 25, 3), (240, .aload_n 0, 1), (241, .getfield 22, 3), (244, .isub, 1), (245, .iconst 4, 1), (246, .if_icmp .gt 7, 3)] = true := by decide +kernel
theorem dX5_step_205 : decode cX5_step 205 = .ok (.imul, 1) := dk_get dk_d01_137 0 rfl
theorem dX5_step_206 : decode cX5_step 206 = .ok (.aload_n 0, 1) := dk_get dk_d01_137 1 rfl
theorem dX5_step_207 : decode cX5_step 207 = .ok (.getfield 9, 3) := dk_get dk_d01_137 2 rfl
theorem dX5_step_210 : decode cX5_step 210 = .ok (.aload_n 0, 1) := dk_get dk_d01_137 3 rfl
theorem dX5_step_211 : decode cX5_step 211 = .ok (.getfield 25, 3) := dk_get dk_d01_137 4 rfl
theorem dX5_step_214 : decode cX5_step 214 = .ok (.iaload, 1) := dk_get dk_d01_137 5 rfl
theorem dX5_step_215 : decode cX5_step 215 = .ok (.iadd, 1) := dk_get dk_d01_137 6 rfl
theorem dX5_step_216 : decode cX5_step 216 = .ok (.bipush 48, 2) := dk_get dk_d01_137 7 rfl
theorem dX5_step_218 : decode cX5_step 218 = .ok (.isub, 1) := dk_get dk_d01_137 8 rfl
theorem dX5_step_219 : decode cX5_step 219 = .ok (.putfield 31, 3) := dk_get dk_d01_137 9 rfl
theorem dX5_step_222 : decode cX5_step 222 = .ok (.aload_n 0, 1) := dk_get dk_d01_137 10 rfl
theorem dX5_step_223 : decode cX5_step 223 = .ok (.dup, 1) := dk_get dk_d01_137 11 rfl
theorem dX5_step_224 : decode cX5_step 224 = .ok (.getfield 25, 3) := dk_get dk_d01_137 12 rfl
theorem dX5_step_227 : decode cX5_step 227 = .ok (.iconst 1, 1) := dk_get dk_d01_137 13 rfl
theorem dX5_step_228 : decode cX5_step 228 = .ok (.iadd, 1) := dk_get dk_d01_137 14 rfl
theorem dX5_step_229 : decode cX5_step 229 = .ok (.putfield 25, 3) := dk_get dk_d01_137 15 rfl
theorem dX5_step_232 : decode cX5_step 232 = .ok (.goto (-60), 3) := dk_get dk_d01_137 16 rfl
theorem dX5_step_235 : decode cX5_step 235 = .ok (.aload_n 0, 1) := dk_get dk_d01_137 17 rfl
theorem dX5_step_236 : decode cX5_step 236 = .ok (.aload_n 0, 1) := dk_get dk_d01_137 18 rfl
theorem dX5_step_237 : decode cX5_step 237 = .ok (.getfield 25, 3) := dk_get dk_d01_137 19 rfl
theorem dX5_step_240 : decode cX5_step 240 = .ok (.aload_n 0, 1) := dk_get dk_d01_137 20 rfl
theorem dX5_step_241 : decode cX5_step 241 = .ok (.getfield 22, 3) := dk_get dk_d01_137 21 rfl
theorem dX5_step_244 : decode cX5_step 244 = .ok (.isub, 1) := dk_get dk_d01_137 22 rfl
theorem dX5_step_245 : decode cX5_step 245 = .ok (.iconst 4, 1) := dk_get dk_d01_137 23 rfl
theorem dX5_step_246 : decode cX5_step 246 = .ok (.if_icmp .gt 7, 3) := dk_get dk_d01_137 24 rfl
theorem dk_d01_138 : dkc cX5_step [(249, .iconst 1, 1), (250, .goto 4, 3), (253, .iconst 3, 1), (254, .putfield 28, 3), (257, .goto 58, 3), (260, .aload_n 0, 1), (261, .aload_n 0, 1), (262, .getfield 9, 3), (265, .aload_n 0, 1), (266, .getfield 25, 3), (269, .iaload, 1), (270, .bipush 40, 2), (272, .if_icmp .lt 29, 3), (275, .aload_n 0, 1), (276, .getfield 9, 3), (279, .aload_n 0, 1), (280, .getfield 25, 3), (283, .iaload, 1), (284, .bipush 62, 2), (286, .if_icmp .gt 15, 3), (289, .aload_n 0, 1), (290, .getfield 9, 3), (293, .aload_n 0, 1), (294, .getfield 25, 3), (297, .iaload, 1)] = true := by decide +kernel
theorem dX5_step_249 : decode cX5_step 249 = .ok (.iconst 1, 1) := dk_get dk_d01_138 0 rfl
theorem dX5_step_250 : decode cX5_step 250 = .ok (.goto 4, 3) := dk_get dk_d01_138 1 rfl
theorem dX5_step_253 : decode cX5_step 253 = .ok (.iconst 3, 1) := dk_get dk_d01_138 2 rfl
theorem dX5_step_254 : decode cX5_step 254 = .ok (.putfield 28, 3) := dk_get dk_d01_138 3 rfl
theorem dX5_step_257 : decode cX5_step 257 = .ok (.goto 58, 3) := dk_get dk_d01_138 4 rfl
theorem dX5_step_260 : decode cX5_step 260 = .ok (.aload_n 0, 1) := dk_get dk_d01_138 5 rfl
theorem dX5_step_261 : decode cX5_step 261 = .ok (.aload_n 0, 1) := dk_get dk_d01_138 6 rfl
theorem dX5_step_262 : decode cX5_step 262 = .ok (.getfield 9, 3) := dk_get dk_d01_138 7 rfl
theorem dX5_step_265 : decode cX5_step 265 = .ok (.aload_n 0, 1) := dk_get dk_d01_138 8 rfl
theorem dX5_step_266 : decode cX5_step 266 = .ok (.getfield 25, 3) := dk_get dk_d01_138 9 rfl
theorem dX5_step_269 : decode cX5_step 269 = .ok (.iaload, 1) := dk_get dk_d01_138 10 rfl
theorem dX5_step_270 : decode cX5_step 270 = .ok (.bipush 40, 2) := dk_get dk_d01_138 11 rfl
theorem dX5_step_272 : decode cX5_step 272 = .ok (.if_icmp .lt 29, 3) := dk_get dk_d01_138 12 rfl
theorem dX5_step_275 : decode cX5_step 275 = .ok (.aload_n 0, 1) := dk_get dk_d01_138 13 rfl
theorem dX5_step_276 : decode cX5_step 276 = .ok (.getfield 9, 3) := dk_get dk_d01_138 14 rfl
theorem dX5_step_279 : decode cX5_step 279 = .ok (.aload_n 0, 1) := dk_get dk_d01_138 15 rfl
theorem dX5_step_280 : decode cX5_step 280 = .ok (.getfield 25, 3) := dk_get dk_d01_138 16 rfl
theorem dX5_step_283 : decode cX5_step 283 = .ok (.iaload, 1) := dk_get dk_d01_138 17 rfl
theorem dX5_step_284 : decode cX5_step 284 = .ok (.bipush 62, 2) := dk_get dk_d01_138 18 rfl
theorem dX5_step_286 : decode cX5_step 286 = .ok (.if_icmp .gt 15, 3) := dk_get dk_d01_138 19 rfl
theorem dX5_step_289 : decode cX5_step 289 = .ok (.aload_n 0, 1) := dk_get dk_d01_138 20 rfl
theorem dX5_step_290 : decode cX5_step 290 = .ok (.getfield 9, 3) := dk_get dk_d01_138 21 rfl
theorem dX5_step_293 : decode cX5_step 293 = .ok (.aload_n 0, 1) := dk_get dk_d01_138 22 rfl
theorem dX5_step_294 : decode cX5_step 294 = .ok (.getfield 25, 3) := dk_get dk_d01_138 23 rfl
theorem dX5_step_297 : decode cX5_step 297 = .ok (.iaload, 1) := dk_get dk_d01_138 24 rfl
theorem dk_d01_139 : dkc cX5_step [(298, .goto 4, 3), (301, .iconst 3, 1), (302, .putfield 28, 3), (305, .aload_n 0, 1), (306, .dup, 1), (307, .getfield 25, 3), (310, .iconst 1, 1), (311, .iadd, 1), (312, .putfield 25, 3), (315, .return_, 1)] = true := by decide +kernel
theorem dX5_step_298 : decode cX5_step 298 = .ok (.goto 4, 3) := dk_get dk_d01_139 0 rfl
theorem dX5_step_301 : decode cX5_step 301 = .ok (.iconst 3, 1) := dk_get dk_d01_139 1 rfl
theorem dX5_step_302 : decode cX5_step 302 = .ok (.putfield 28, 3) := dk_get dk_d01_139 2 rfl
theorem dX5_step_305 : decode cX5_step 305 = .ok (.aload_n 0, 1) := dk_get dk_d01_139 3 rfl
theorem dX5_step_306 : decode cX5_step 306 = .ok (.dup, 1) := dk_get dk_d01_139 4 rfl
theorem dX5_step_307 : decode cX5_step 307 = .ok (.getfield 25, 3) := dk_get dk_d01_139 5 rfl
theorem dX5_step_310 : decode cX5_step 310 = .ok (.iconst 1, 1) := dk_get dk_d01_139 6 rfl
theorem dX5_step_311 : decode cX5_step 311 = .ok (.iadd, 1) := dk_get dk_d01_139 7 rfl
theorem dX5_step_312 : decode cX5_step 312 = .ok (.putfield 25, 3) := dk_get dk_d01_139 8 rfl
theorem dX5_step_315 : decode cX5_step 315 = .ok (.return_, 1) := dk_get dk_d01_139 9 rfl
theorem dk_d01_140 : dkc cX5_letter [(0, .iload_n 0, 1), (1, .bipush 97, 2), (3, .if_icmp .lt 9, 3), (6, .iload_n 0, 1), (7, .bipush 122, 2), (9, .if_icmp .le 15, 3), (12, .iload_n 0, 1), (13, .bipush 65, 2), (15, .if_icmp .lt 13, 3), (18, .iload_n 0, 1), (19, .bipush 90, 2), (21, .if_icmp .gt 7, 3), (24, .iconst 1, 1), (25, .goto 4, 3), (28, .iconst 0, 1), (29, .ireturn, 1)] = true := by decide +kernel
theorem dX5_letter_0 : decode cX5_letter 0 = .ok (.iload_n 0, 1) := dk_get dk_d01_140 0 rfl
theorem dX5_letter_1 : decode cX5_letter 1 = .ok (.bipush 97, 2) := dk_get dk_d01_140 1 rfl
theorem dX5_letter_3 : decode cX5_letter 3 = .ok (.if_icmp .lt 9, 3) := dk_get dk_d01_140 2 rfl
theorem dX5_letter_6 : decode cX5_letter 6 = .ok (.iload_n 0, 1) := dk_get dk_d01_140 3 rfl
theorem dX5_letter_7 : decode cX5_letter 7 = .ok (.bipush 122, 2) := dk_get dk_d01_140 4 rfl
theorem dX5_letter_9 : decode cX5_letter 9 = .ok (.if_icmp .le 15, 3) := dk_get dk_d01_140 5 rfl
theorem dX5_letter_12 : decode cX5_letter 12 = .ok (.iload_n 0, 1) := dk_get dk_d01_140 6 rfl
theorem dX5_letter_13 : decode cX5_letter 13 = .ok (.bipush 65, 2) := dk_get dk_d01_140 7 rfl
theorem dX5_letter_15 : decode cX5_letter 15 = .ok (.if_icmp .lt 13, 3) := dk_get dk_d01_140 8 rfl
theorem dX5_letter_18 : decode cX5_letter 18 = .ok (.iload_n 0, 1) := dk_get dk_d01_140 9 rfl
theorem dX5_letter_19 : decode cX5_letter 19 = .ok (.bipush 90, 2) := dk_get dk_d01_140 10 rfl
theorem dX5_letter_21 : decode cX5_letter 21 = .ok (.if_icmp .gt 7, 3) := dk_get dk_d01_140 11 rfl
theorem dX5_letter_24 : decode cX5_letter 24 = .ok (.iconst 1, 1) := dk_get dk_d01_140 12 rfl
theorem dX5_letter_25 : decode cX5_letter 25 = .ok (.goto 4, 3) := dk_get dk_d01_140 13 rfl
theorem dX5_letter_28 : decode cX5_letter 28 = .ok (.iconst 0, 1) := dk_get dk_d01_140 14 rfl
theorem dX5_letter_29 : decode cX5_letter 29 = .ok (.ireturn, 1) := dk_get dk_d01_140 15 rfl
theorem dk_d01_141 : dkc cX5_digit [(0, .iload_n 0, 1), (1, .bipush 48, 2), (3, .if_icmp .lt 13, 3), (6, .iload_n 0, 1), (7, .bipush 57, 2), (9, .if_icmp .gt 7, 3), (12, .iconst 1, 1), (13, .goto 4, 3), (16, .iconst 0, 1), (17, .ireturn, 1)] = true := by decide +kernel
theorem dX5_digit_0 : decode cX5_digit 0 = .ok (.iload_n 0, 1) := dk_get dk_d01_141 0 rfl
theorem dX5_digit_1 : decode cX5_digit 1 = .ok (.bipush 48, 2) := dk_get dk_d01_141 1 rfl
theorem dX5_digit_3 : decode cX5_digit 3 = .ok (.if_icmp .lt 13, 3) := dk_get dk_d01_141 2 rfl
theorem dX5_digit_6 : decode cX5_digit 6 = .ok (.iload_n 0, 1) := dk_get dk_d01_141 3 rfl
theorem dX5_digit_7 : decode cX5_digit 7 = .ok (.bipush 57, 2) := dk_get dk_d01_141 4 rfl
theorem dX5_digit_9 : decode cX5_digit 9 = .ok (.if_icmp .gt 7, 3) := dk_get dk_d01_141 5 rfl
theorem dX5_digit_12 : decode cX5_digit 12 = .ok (.iconst 1, 1) := dk_get dk_d01_141 6 rfl
theorem dX5_digit_13 : decode cX5_digit 13 = .ok (.goto 4, 3) := dk_get dk_d01_141 7 rfl
theorem dX5_digit_16 : decode cX5_digit 16 = .ok (.iconst 0, 1) := dk_get dk_d01_141 8 rfl
theorem dX5_digit_17 : decode cX5_digit 17 = .ok (.ireturn, 1) := dk_get dk_d01_141 9 rfl
theorem dk_d01_142 : dkc cX5_wordOf [(0, .sipush 300, 3), (3, .istore_n 3, 1), (4, .iload_n 1, 1), (5, .istore 4, 2), (7, .iconst 1, 1), (8, .istore 5, 2), (10, .iconst 0, 1), (11, .istore 6, 2), (13, .iload 6, 2), (15, .ldc 93, 2), (17, .invokevirtual 95, 3), (20, .if_icmp .ge 92, 3), (23, .ldc 93, 2), (25, .iload 6, 2), (27, .invokevirtual 100, 3), (30, .istore 7, 2), (32, .iload 7, 2), (34, .bipush 32, 2), (36, .if_icmp .ne 28, 3), (39, .iload 5, 2), (41, .ifCond .eq 11, 3), (44, .iload 4, 2), (46, .iload_n 2, 1), (47, .if_icmp .ne 5, 3), (50, .iload_n 3, 1)] = true := by decide +kernel
theorem dX5_wordOf_0 : decode cX5_wordOf 0 = .ok (.sipush 300, 3) := dk_get dk_d01_142 0 rfl
theorem dX5_wordOf_3 : decode cX5_wordOf 3 = .ok (.istore_n 3, 1) := dk_get dk_d01_142 1 rfl
theorem dX5_wordOf_4 : decode cX5_wordOf 4 = .ok (.iload_n 1, 1) := dk_get dk_d01_142 2 rfl
theorem dX5_wordOf_5 : decode cX5_wordOf 5 = .ok (.istore 4, 2) := dk_get dk_d01_142 3 rfl
theorem dX5_wordOf_7 : decode cX5_wordOf 7 = .ok (.iconst 1, 1) := dk_get dk_d01_142 4 rfl
theorem dX5_wordOf_8 : decode cX5_wordOf 8 = .ok (.istore 5, 2) := dk_get dk_d01_142 5 rfl
theorem dX5_wordOf_10 : decode cX5_wordOf 10 = .ok (.iconst 0, 1) := dk_get dk_d01_142 6 rfl
theorem dX5_wordOf_11 : decode cX5_wordOf 11 = .ok (.istore 6, 2) := dk_get dk_d01_142 7 rfl
theorem dX5_wordOf_13 : decode cX5_wordOf 13 = .ok (.iload 6, 2) := dk_get dk_d01_142 8 rfl
theorem dX5_wordOf_15 : decode cX5_wordOf 15 = .ok (.ldc 93, 2) := dk_get dk_d01_142 9 rfl
theorem dX5_wordOf_17 : decode cX5_wordOf 17 = .ok (.invokevirtual 95, 3) := dk_get dk_d01_142 10 rfl
theorem dX5_wordOf_20 : decode cX5_wordOf 20 = .ok (.if_icmp .ge 92, 3) := dk_get dk_d01_142 11 rfl
theorem dX5_wordOf_23 : decode cX5_wordOf 23 = .ok (.ldc 93, 2) := dk_get dk_d01_142 12 rfl
theorem dX5_wordOf_25 : decode cX5_wordOf 25 = .ok (.iload 6, 2) := dk_get dk_d01_142 13 rfl
theorem dX5_wordOf_27 : decode cX5_wordOf 27 = .ok (.invokevirtual 100, 3) := dk_get dk_d01_142 14 rfl
theorem dX5_wordOf_30 : decode cX5_wordOf 30 = .ok (.istore 7, 2) := dk_get dk_d01_142 15 rfl
theorem dX5_wordOf_32 : decode cX5_wordOf 32 = .ok (.iload 7, 2) := dk_get dk_d01_142 16 rfl
theorem dX5_wordOf_34 : decode cX5_wordOf 34 = .ok (.bipush 32, 2) := dk_get dk_d01_142 17 rfl
theorem dX5_wordOf_36 : decode cX5_wordOf 36 = .ok (.if_icmp .ne 28, 3) := dk_get dk_d01_142 18 rfl
theorem dX5_wordOf_39 : decode cX5_wordOf 39 = .ok (.iload 5, 2) := dk_get dk_d01_142 19 rfl
theorem dX5_wordOf_41 : decode cX5_wordOf 41 = .ok (.ifCond .eq 11, 3) := dk_get dk_d01_142 20 rfl
theorem dX5_wordOf_44 : decode cX5_wordOf 44 = .ok (.iload 4, 2) := dk_get dk_d01_142 21 rfl
theorem dX5_wordOf_46 : decode cX5_wordOf 46 = .ok (.iload_n 2, 1) := dk_get dk_d01_142 22 rfl
theorem dX5_wordOf_47 : decode cX5_wordOf 47 = .ok (.if_icmp .ne 5, 3) := dk_get dk_d01_142 23 rfl
theorem dX5_wordOf_50 : decode cX5_wordOf 50 = .ok (.iload_n 3, 1) := dk_get dk_d01_142 24 rfl
theorem dk_d01_143 : dkc cX5_wordOf [(51, .ireturn, 1), (52, .iinc 3 1, 3), (55, .iload_n 1, 1), (56, .istore 4, 2), (58, .iconst 1, 1), (59, .istore 5, 2), (61, .goto 45, 3), (64, .iload 5, 2), (66, .ifCond .eq 34, 3), (69, .iload 4, 2), (71, .iload_n 2, 1), (72, .if_icmp .ge 28, 3), (75, .iload 4, 2), (77, .aload_n 0, 1), (78, .getfield 19, 3), (81, .if_icmp .ge 19, 3), (84, .aload_n 0, 1), (85, .getfield 9, 3), (88, .iload 4, 2), (90, .iaload, 1), (91, .iload 7, 2), (93, .if_icmp .ne 7, 3), (96, .iconst 1, 1), (97, .goto 4, 3), (100, .iconst 0, 1)] = true := by decide +kernel
theorem dX5_wordOf_51 : decode cX5_wordOf 51 = .ok (.ireturn, 1) := dk_get dk_d01_143 0 rfl
theorem dX5_wordOf_52 : decode cX5_wordOf 52 = .ok (.iinc 3 1, 3) := dk_get dk_d01_143 1 rfl
theorem dX5_wordOf_55 : decode cX5_wordOf 55 = .ok (.iload_n 1, 1) := dk_get dk_d01_143 2 rfl
theorem dX5_wordOf_56 : decode cX5_wordOf 56 = .ok (.istore 4, 2) := dk_get dk_d01_143 3 rfl
theorem dX5_wordOf_58 : decode cX5_wordOf 58 = .ok (.iconst 1, 1) := dk_get dk_d01_143 4 rfl
theorem dX5_wordOf_59 : decode cX5_wordOf 59 = .ok (.istore 5, 2) := dk_get dk_d01_143 5 rfl
theorem dX5_wordOf_61 : decode cX5_wordOf 61 = .ok (.goto 45, 3) := dk_get dk_d01_143 6 rfl
theorem dX5_wordOf_64 : decode cX5_wordOf 64 = .ok (.iload 5, 2) := dk_get dk_d01_143 7 rfl
theorem dX5_wordOf_66 : decode cX5_wordOf 66 = .ok (.ifCond .eq 34, 3) := dk_get dk_d01_143 8 rfl
theorem dX5_wordOf_69 : decode cX5_wordOf 69 = .ok (.iload 4, 2) := dk_get dk_d01_143 9 rfl
theorem dX5_wordOf_71 : decode cX5_wordOf 71 = .ok (.iload_n 2, 1) := dk_get dk_d01_143 10 rfl
theorem dX5_wordOf_72 : decode cX5_wordOf 72 = .ok (.if_icmp .ge 28, 3) := dk_get dk_d01_143 11 rfl
theorem dX5_wordOf_75 : decode cX5_wordOf 75 = .ok (.iload 4, 2) := dk_get dk_d01_143 12 rfl
theorem dX5_wordOf_77 : decode cX5_wordOf 77 = .ok (.aload_n 0, 1) := dk_get dk_d01_143 13 rfl
theorem dX5_wordOf_78 : decode cX5_wordOf 78 = .ok (.getfield 19, 3) := dk_get dk_d01_143 14 rfl
theorem dX5_wordOf_81 : decode cX5_wordOf 81 = .ok (.if_icmp .ge 19, 3) := dk_get dk_d01_143 15 rfl
theorem dX5_wordOf_84 : decode cX5_wordOf 84 = .ok (.aload_n 0, 1) := dk_get dk_d01_143 16 rfl
theorem dX5_wordOf_85 : decode cX5_wordOf 85 = .ok (.getfield 9, 3) := dk_get dk_d01_143 17 rfl
theorem dX5_wordOf_88 : decode cX5_wordOf 88 = .ok (.iload 4, 2) := dk_get dk_d01_143 18 rfl
theorem dX5_wordOf_90 : decode cX5_wordOf 90 = .ok (.iaload, 1) := dk_get dk_d01_143 19 rfl
theorem dX5_wordOf_91 : decode cX5_wordOf 91 = .ok (.iload 7, 2) := dk_get dk_d01_143 20 rfl
theorem dX5_wordOf_93 : decode cX5_wordOf 93 = .ok (.if_icmp .ne 7, 3) := dk_get dk_d01_143 21 rfl
theorem dX5_wordOf_96 : decode cX5_wordOf 96 = .ok (.iconst 1, 1) := dk_get dk_d01_143 22 rfl
theorem dX5_wordOf_97 : decode cX5_wordOf 97 = .ok (.goto 4, 3) := dk_get dk_d01_143 23 rfl
theorem dX5_wordOf_100 : decode cX5_wordOf 100 = .ok (.iconst 0, 1) := dk_get dk_d01_143 24 rfl
theorem dk_d01_144 : dkc cX5_wordOf [(101, .istore 5, 2), (103, .iinc 4 1, 3), (106, .iinc 6 1, 3), (109, .goto (-96), 3), (112, .iload 5, 2), (114, .ifCond .eq 13, 3), (117, .iload 4, 2), (119, .iload_n 2, 1), (120, .if_icmp .ne 7, 3), (123, .iload_n 3, 1), (124, .goto 4, 3), (127, .iconst 3, 1), (128, .ireturn, 1)] = true := by decide +kernel
theorem dX5_wordOf_101 : decode cX5_wordOf 101 = .ok (.istore 5, 2) := dk_get dk_d01_144 0 rfl
theorem dX5_wordOf_103 : decode cX5_wordOf 103 = .ok (.iinc 4 1, 3) := dk_get dk_d01_144 1 rfl
theorem dX5_wordOf_106 : decode cX5_wordOf 106 = .ok (.iinc 6 1, 3) := dk_get dk_d01_144 2 rfl
theorem dX5_wordOf_109 : decode cX5_wordOf 109 = .ok (.goto (-96), 3) := dk_get dk_d01_144 3 rfl
theorem dX5_wordOf_112 : decode cX5_wordOf 112 = .ok (.iload 5, 2) := dk_get dk_d01_144 4 rfl
theorem dX5_wordOf_114 : decode cX5_wordOf 114 = .ok (.ifCond .eq 13, 3) := dk_get dk_d01_144 5 rfl
theorem dX5_wordOf_117 : decode cX5_wordOf 117 = .ok (.iload 4, 2) := dk_get dk_d01_144 6 rfl
theorem dX5_wordOf_119 : decode cX5_wordOf 119 = .ok (.iload_n 2, 1) := dk_get dk_d01_144 7 rfl
theorem dX5_wordOf_120 : decode cX5_wordOf 120 = .ok (.if_icmp .ne 7, 3) := dk_get dk_d01_144 8 rfl
theorem dX5_wordOf_123 : decode cX5_wordOf 123 = .ok (.iload_n 3, 1) := dk_get dk_d01_144 9 rfl
theorem dX5_wordOf_124 : decode cX5_wordOf 124 = .ok (.goto 4, 3) := dk_get dk_d01_144 10 rfl
theorem dX5_wordOf_127 : decode cX5_wordOf 127 = .ok (.iconst 3, 1) := dk_get dk_d01_144 11 rfl
theorem dX5_wordOf_128 : decode cX5_wordOf 128 = .ok (.ireturn, 1) := dk_get dk_d01_144 12 rfl
theorem dk_d01_145 : dkc cX5_wrong [(0, .aload_n 0, 1), (1, .iload_n 1, 1), (2, .putfield 34, 3), (5, .aload_n 0, 1), (6, .aload_n 0, 1), (7, .getfield 22, 3), (10, .putfield 37, 3), (13, .iconst 0, 1), (14, .ireturn, 1)] = true := by decide +kernel
theorem dX5_wrong_0 : decode cX5_wrong 0 = .ok (.aload_n 0, 1) := dk_get dk_d01_145 0 rfl
theorem dX5_wrong_1 : decode cX5_wrong 1 = .ok (.iload_n 1, 1) := dk_get dk_d01_145 1 rfl
theorem dX5_wrong_2 : decode cX5_wrong 2 = .ok (.putfield 34, 3) := dk_get dk_d01_145 2 rfl
theorem dX5_wrong_5 : decode cX5_wrong 5 = .ok (.aload_n 0, 1) := dk_get dk_d01_145 3 rfl
theorem dX5_wrong_6 : decode cX5_wrong 6 = .ok (.aload_n 0, 1) := dk_get dk_d01_145 4 rfl
theorem dX5_wrong_7 : decode cX5_wrong 7 = .ok (.getfield 22, 3) := dk_get dk_d01_145 5 rfl
theorem dX5_wrong_10 : decode cX5_wrong 10 = .ok (.putfield 37, 3) := dk_get dk_d01_145 6 rfl
theorem dX5_wrong_13 : decode cX5_wrong 13 = .ok (.iconst 0, 1) := dk_get dk_d01_145 7 rfl
theorem dX5_wrong_14 : decode cX5_wrong 14 = .ok (.ireturn, 1) := dk_get dk_d01_145 8 rfl
theorem dk_d01_146 : dkc cX5_sign [(0, .aload_n 0, 1), (1, .getfield 28, 3), (4, .iload_n 1, 1), (5, .if_icmp .eq 9, 3), (8, .aload_n 0, 1), (9, .iconst 1, 1), (10, .invokevirtual 104, 3), (13, .ireturn, 1), (14, .aload_n 0, 1), (15, .invokevirtual 55, 3), (18, .iconst 1, 1), (19, .ireturn, 1)] = true := by decide +kernel
theorem dX5_sign_0 : decode cX5_sign 0 = .ok (.aload_n 0, 1) := dk_get dk_d01_146 0 rfl
theorem dX5_sign_1 : decode cX5_sign 1 = .ok (.getfield 28, 3) := dk_get dk_d01_146 1 rfl
theorem dX5_sign_4 : decode cX5_sign 4 = .ok (.iload_n 1, 1) := dk_get dk_d01_146 2 rfl
theorem dX5_sign_5 : decode cX5_sign 5 = .ok (.if_icmp .eq 9, 3) := dk_get dk_d01_146 3 rfl
theorem dX5_sign_8 : decode cX5_sign 8 = .ok (.aload_n 0, 1) := dk_get dk_d01_146 4 rfl
theorem dX5_sign_9 : decode cX5_sign 9 = .ok (.iconst 1, 1) := dk_get dk_d01_146 5 rfl
theorem dX5_sign_10 : decode cX5_sign 10 = .ok (.invokevirtual 104, 3) := dk_get dk_d01_146 6 rfl
theorem dX5_sign_13 : decode cX5_sign 13 = .ok (.ireturn, 1) := dk_get dk_d01_146 7 rfl
theorem dX5_sign_14 : decode cX5_sign 14 = .ok (.aload_n 0, 1) := dk_get dk_d01_146 8 rfl
theorem dX5_sign_15 : decode cX5_sign 15 = .ok (.invokevirtual 55, 3) := dk_get dk_d01_146 9 rfl
theorem dX5_sign_18 : decode cX5_sign 18 = .ok (.iconst 1, 1) := dk_get dk_d01_146 10 rfl
theorem dX5_sign_19 : decode cX5_sign 19 = .ok (.ireturn, 1) := dk_get dk_d01_146 11 rfl
theorem dk_d01_147 : dkc cX5_bounded [(0, .aload_n 0, 1), (1, .getfield 28, 3), (4, .iconst 1, 1), (5, .if_icmp .eq 9, 3), (8, .aload_n 0, 1), (9, .iconst 1, 1), (10, .invokevirtual 104, 3), (13, .ireturn, 1), (14, .aload_n 0, 1), (15, .getfield 31, 3), (18, .iload_n 2, 1), (19, .if_icmp .le 9, 3), (22, .aload_n 0, 1), (23, .iconst 2, 1), (24, .invokevirtual 104, 3), (27, .ireturn, 1), (28, .aload_n 0, 1), (29, .iload_n 1, 1), (30, .aload_n 0, 1), (31, .getfield 31, 3), (34, .invokevirtual 107, 3), (37, .aload_n 0, 1), (38, .invokevirtual 55, 3), (41, .iconst 1, 1), (42, .ireturn, 1)] = true := by decide +kernel
theorem dX5_bounded_0 : decode cX5_bounded 0 = .ok (.aload_n 0, 1) := dk_get dk_d01_147 0 rfl
theorem dX5_bounded_1 : decode cX5_bounded 1 = .ok (.getfield 28, 3) := dk_get dk_d01_147 1 rfl
theorem dX5_bounded_4 : decode cX5_bounded 4 = .ok (.iconst 1, 1) := dk_get dk_d01_147 2 rfl
theorem dX5_bounded_5 : decode cX5_bounded 5 = .ok (.if_icmp .eq 9, 3) := dk_get dk_d01_147 3 rfl
theorem dX5_bounded_8 : decode cX5_bounded 8 = .ok (.aload_n 0, 1) := dk_get dk_d01_147 4 rfl
theorem dX5_bounded_9 : decode cX5_bounded 9 = .ok (.iconst 1, 1) := dk_get dk_d01_147 5 rfl
theorem dX5_bounded_10 : decode cX5_bounded 10 = .ok (.invokevirtual 104, 3) := dk_get dk_d01_147 6 rfl
theorem dX5_bounded_13 : decode cX5_bounded 13 = .ok (.ireturn, 1) := dk_get dk_d01_147 7 rfl
theorem dX5_bounded_14 : decode cX5_bounded 14 = .ok (.aload_n 0, 1) := dk_get dk_d01_147 8 rfl
theorem dX5_bounded_15 : decode cX5_bounded 15 = .ok (.getfield 31, 3) := dk_get dk_d01_147 9 rfl
theorem dX5_bounded_18 : decode cX5_bounded 18 = .ok (.iload_n 2, 1) := dk_get dk_d01_147 10 rfl
theorem dX5_bounded_19 : decode cX5_bounded 19 = .ok (.if_icmp .le 9, 3) := dk_get dk_d01_147 11 rfl
theorem dX5_bounded_22 : decode cX5_bounded 22 = .ok (.aload_n 0, 1) := dk_get dk_d01_147 12 rfl
theorem dX5_bounded_23 : decode cX5_bounded 23 = .ok (.iconst 2, 1) := dk_get dk_d01_147 13 rfl
theorem dX5_bounded_24 : decode cX5_bounded 24 = .ok (.invokevirtual 104, 3) := dk_get dk_d01_147 14 rfl
theorem dX5_bounded_27 : decode cX5_bounded 27 = .ok (.ireturn, 1) := dk_get dk_d01_147 15 rfl
theorem dX5_bounded_28 : decode cX5_bounded 28 = .ok (.aload_n 0, 1) := dk_get dk_d01_147 16 rfl
theorem dX5_bounded_29 : decode cX5_bounded 29 = .ok (.iload_n 1, 1) := dk_get dk_d01_147 17 rfl
theorem dX5_bounded_30 : decode cX5_bounded 30 = .ok (.aload_n 0, 1) := dk_get dk_d01_147 18 rfl
theorem dX5_bounded_31 : decode cX5_bounded 31 = .ok (.getfield 31, 3) := dk_get dk_d01_147 19 rfl
theorem dX5_bounded_34 : decode cX5_bounded 34 = .ok (.invokevirtual 107, 3) := dk_get dk_d01_147 20 rfl
theorem dX5_bounded_37 : decode cX5_bounded 37 = .ok (.aload_n 0, 1) := dk_get dk_d01_147 21 rfl
theorem dX5_bounded_38 : decode cX5_bounded 38 = .ok (.invokevirtual 55, 3) := dk_get dk_d01_147 22 rfl
theorem dX5_bounded_41 : decode cX5_bounded 41 = .ok (.iconst 1, 1) := dk_get dk_d01_147 23 rfl
theorem dX5_bounded_42 : decode cX5_bounded 42 = .ok (.ireturn, 1) := dk_get dk_d01_147 24 rfl
theorem dk_d01_148 : dkc cX5_put [(0, .aload_n 0, 1), (1, .getfield 46, 3), (4, .ifCond .lt 35, 3), (7, .aload_n 0, 1), (8, .getfield 46, 3), (11, .bipush 16, 2), (13, .if_icmp .ge 26, 3), (16, .iload_n 1, 1), (17, .ifCond .lt 22, 3), (20, .iload_n 1, 1), (21, .iconst 5, 1), (22, .if_icmp .ge 17, 3), (25, .aload_n 0, 1), (26, .getfield 43, 3), (29, .aload_n 0, 1), (30, .getfield 46, 3), (33, .iconst 5, 1), (34, .imul, 1), (35, .iload_n 1, 1), (36, .iadd, 1), (37, .iload_n 2, 1), (38, .iastore, 1), (39, .return_, 1)] = true := by decide +kernel
theorem dX5_put_0 : decode cX5_put 0 = .ok (.aload_n 0, 1) := dk_get dk_d01_148 0 rfl
theorem dX5_put_1 : decode cX5_put 1 = .ok (.getfield 46, 3) := dk_get dk_d01_148 1 rfl
theorem dX5_put_4 : decode cX5_put 4 = .ok (.ifCond .lt 35, 3) := dk_get dk_d01_148 2 rfl
theorem dX5_put_7 : decode cX5_put 7 = .ok (.aload_n 0, 1) := dk_get dk_d01_148 3 rfl
theorem dX5_put_8 : decode cX5_put 8 = .ok (.getfield 46, 3) := dk_get dk_d01_148 4 rfl
theorem dX5_put_11 : decode cX5_put 11 = .ok (.bipush 16, 2) := dk_get dk_d01_148 5 rfl
theorem dX5_put_13 : decode cX5_put 13 = .ok (.if_icmp .ge 26, 3) := dk_get dk_d01_148 6 rfl
theorem dX5_put_16 : decode cX5_put 16 = .ok (.iload_n 1, 1) := dk_get dk_d01_148 7 rfl
theorem dX5_put_17 : decode cX5_put 17 = .ok (.ifCond .lt 22, 3) := dk_get dk_d01_148 8 rfl
theorem dX5_put_20 : decode cX5_put 20 = .ok (.iload_n 1, 1) := dk_get dk_d01_148 9 rfl
theorem dX5_put_21 : decode cX5_put 21 = .ok (.iconst 5, 1) := dk_get dk_d01_148 10 rfl
theorem dX5_put_22 : decode cX5_put 22 = .ok (.if_icmp .ge 17, 3) := dk_get dk_d01_148 11 rfl
theorem dX5_put_25 : decode cX5_put 25 = .ok (.aload_n 0, 1) := dk_get dk_d01_148 12 rfl
theorem dX5_put_26 : decode cX5_put 26 = .ok (.getfield 43, 3) := dk_get dk_d01_148 13 rfl
theorem dX5_put_29 : decode cX5_put 29 = .ok (.aload_n 0, 1) := dk_get dk_d01_148 14 rfl
theorem dX5_put_30 : decode cX5_put 30 = .ok (.getfield 46, 3) := dk_get dk_d01_148 15 rfl
theorem dX5_put_33 : decode cX5_put 33 = .ok (.iconst 5, 1) := dk_get dk_d01_148 16 rfl
theorem dX5_put_34 : decode cX5_put 34 = .ok (.imul, 1) := dk_get dk_d01_148 17 rfl
theorem dX5_put_35 : decode cX5_put 35 = .ok (.iload_n 1, 1) := dk_get dk_d01_148 18 rfl
theorem dX5_put_36 : decode cX5_put 36 = .ok (.iadd, 1) := dk_get dk_d01_148 19 rfl
theorem dX5_put_37 : decode cX5_put 37 = .ok (.iload_n 2, 1) := dk_get dk_d01_148 20 rfl
theorem dX5_put_38 : decode cX5_put 38 = .ok (.iastore, 1) := dk_get dk_d01_148 21 rfl
theorem dX5_put_39 : decode cX5_put 39 = .ok (.return_, 1) := dk_get dk_d01_148 22 rfl
theorem dk_d01_149 : dkc cX5_opensLine [(0, .iload_n 1, 1), (1, .ifCond .ne 42, 3), (4, .aload_n 0, 1), (5, .getfield 28, 3), (8, .sipush 300, 3), (11, .if_icmp .eq 23, 3), (14, .aload_n 0, 1), (15, .getfield 28, 3), (18, .sipush 301, 3), (21, .if_icmp .eq 13, 3), (24, .aload_n 0, 1), (25, .getfield 28, 3), (28, .sipush 302, 3), (31, .if_icmp .ne 7, 3), (34, .iconst 1, 1), (35, .goto 4, 3), (38, .iconst 0, 1), (39, .istore_n 2, 1), (40, .goto 30, 3), (43, .aload_n 0, 1), (44, .getfield 28, 3), (47, .iload_n 1, 1), (48, .iconst 2, 1), (49, .if_icmp .ne 9, 3), (52, .sipush 320, 3)] = true := by decide +kernel
theorem dX5_opensLine_0 : decode cX5_opensLine 0 = .ok (.iload_n 1, 1) := dk_get dk_d01_149 0 rfl
theorem dX5_opensLine_1 : decode cX5_opensLine 1 = .ok (.ifCond .ne 42, 3) := dk_get dk_d01_149 1 rfl
theorem dX5_opensLine_4 : decode cX5_opensLine 4 = .ok (.aload_n 0, 1) := dk_get dk_d01_149 2 rfl
theorem dX5_opensLine_5 : decode cX5_opensLine 5 = .ok (.getfield 28, 3) := dk_get dk_d01_149 3 rfl
theorem dX5_opensLine_8 : decode cX5_opensLine 8 = .ok (.sipush 300, 3) := dk_get dk_d01_149 4 rfl
theorem dX5_opensLine_11 : decode cX5_opensLine 11 = .ok (.if_icmp .eq 23, 3) := dk_get dk_d01_149 5 rfl
theorem dX5_opensLine_14 : decode cX5_opensLine 14 = .ok (.aload_n 0, 1) := dk_get dk_d01_149 6 rfl
theorem dX5_opensLine_15 : decode cX5_opensLine 15 = .ok (.getfield 28, 3) := dk_get dk_d01_149 7 rfl
theorem dX5_opensLine_18 : decode cX5_opensLine 18 = .ok (.sipush 301, 3) := dk_get dk_d01_149 8 rfl
theorem dX5_opensLine_21 : decode cX5_opensLine 21 = .ok (.if_icmp .eq 13, 3) := dk_get dk_d01_149 9 rfl
theorem dX5_opensLine_24 : decode cX5_opensLine 24 = .ok (.aload_n 0, 1) := dk_get dk_d01_149 10 rfl
theorem dX5_opensLine_25 : decode cX5_opensLine 25 = .ok (.getfield 28, 3) := dk_get dk_d01_149 11 rfl
theorem dX5_opensLine_28 : decode cX5_opensLine 28 = .ok (.sipush 302, 3) := dk_get dk_d01_149 12 rfl
theorem dX5_opensLine_31 : decode cX5_opensLine 31 = .ok (.if_icmp .ne 7, 3) := dk_get dk_d01_149 13 rfl
theorem dX5_opensLine_34 : decode cX5_opensLine 34 = .ok (.iconst 1, 1) := dk_get dk_d01_149 14 rfl
theorem dX5_opensLine_35 : decode cX5_opensLine 35 = .ok (.goto 4, 3) := dk_get dk_d01_149 15 rfl
theorem dX5_opensLine_38 : decode cX5_opensLine 38 = .ok (.iconst 0, 1) := dk_get dk_d01_149 16 rfl
theorem dX5_opensLine_39 : decode cX5_opensLine 39 = .ok (.istore_n 2, 1) := dk_get dk_d01_149 17 rfl
theorem dX5_opensLine_40 : decode cX5_opensLine 40 = .ok (.goto 30, 3) := dk_get dk_d01_149 18 rfl
theorem dX5_opensLine_43 : decode cX5_opensLine 43 = .ok (.aload_n 0, 1) := dk_get dk_d01_149 19 rfl
theorem dX5_opensLine_44 : decode cX5_opensLine 44 = .ok (.getfield 28, 3) := dk_get dk_d01_149 20 rfl
theorem dX5_opensLine_47 : decode cX5_opensLine 47 = .ok (.iload_n 1, 1) := dk_get dk_d01_149 21 rfl
theorem dX5_opensLine_48 : decode cX5_opensLine 48 = .ok (.iconst 2, 1) := dk_get dk_d01_149 22 rfl
theorem dX5_opensLine_49 : decode cX5_opensLine 49 = .ok (.if_icmp .ne 9, 3) := dk_get dk_d01_149 23 rfl
theorem dX5_opensLine_52 : decode cX5_opensLine 52 = .ok (.sipush 320, 3) := dk_get dk_d01_149 24 rfl
theorem dk_d01_150 : dkc cX5_opensLine [(55, .goto 6, 3), (58, .sipush 317, 3), (61, .if_icmp .ne 7, 3), (64, .iconst 1, 1), (65, .goto 4, 3), (68, .iconst 0, 1), (69, .istore_n 2, 1), (70, .iload_n 2, 1), (71, .ifCond .ne 9, 3), (74, .aload_n 0, 1), (75, .iconst 1, 1), (76, .invokevirtual 104, 3), (79, .ireturn, 1), (80, .aload_n 0, 1), (81, .getfield 46, 3), (84, .bipush 16, 2), (86, .if_icmp .lt 9, 3), (89, .aload_n 0, 1), (90, .iconst 3, 1), (91, .invokevirtual 104, 3), (94, .ireturn, 1), (95, .aload_n 0, 1), (96, .iconst 0, 1), (97, .aload_n 0, 1), (98, .getfield 28, 3)] = true := by decide +kernel
theorem dX5_opensLine_55 : decode cX5_opensLine 55 = .ok (.goto 6, 3) := dk_get dk_d01_150 0 rfl
theorem dX5_opensLine_58 : decode cX5_opensLine 58 = .ok (.sipush 317, 3) := dk_get dk_d01_150 1 rfl
theorem dX5_opensLine_61 : decode cX5_opensLine 61 = .ok (.if_icmp .ne 7, 3) := dk_get dk_d01_150 2 rfl
theorem dX5_opensLine_64 : decode cX5_opensLine 64 = .ok (.iconst 1, 1) := dk_get dk_d01_150 3 rfl
theorem dX5_opensLine_65 : decode cX5_opensLine 65 = .ok (.goto 4, 3) := dk_get dk_d01_150 4 rfl
theorem dX5_opensLine_68 : decode cX5_opensLine 68 = .ok (.iconst 0, 1) := dk_get dk_d01_150 5 rfl
theorem dX5_opensLine_69 : decode cX5_opensLine 69 = .ok (.istore_n 2, 1) := dk_get dk_d01_150 6 rfl
theorem dX5_opensLine_70 : decode cX5_opensLine 70 = .ok (.iload_n 2, 1) := dk_get dk_d01_150 7 rfl
theorem dX5_opensLine_71 : decode cX5_opensLine 71 = .ok (.ifCond .ne 9, 3) := dk_get dk_d01_150 8 rfl
theorem dX5_opensLine_74 : decode cX5_opensLine 74 = .ok (.aload_n 0, 1) := dk_get dk_d01_150 9 rfl
theorem dX5_opensLine_75 : decode cX5_opensLine 75 = .ok (.iconst 1, 1) := dk_get dk_d01_150 10 rfl
theorem dX5_opensLine_76 : decode cX5_opensLine 76 = .ok (.invokevirtual 104, 3) := dk_get dk_d01_150 11 rfl
theorem dX5_opensLine_79 : decode cX5_opensLine 79 = .ok (.ireturn, 1) := dk_get dk_d01_150 12 rfl
theorem dX5_opensLine_80 : decode cX5_opensLine 80 = .ok (.aload_n 0, 1) := dk_get dk_d01_150 13 rfl
theorem dX5_opensLine_81 : decode cX5_opensLine 81 = .ok (.getfield 46, 3) := dk_get dk_d01_150 14 rfl
theorem dX5_opensLine_84 : decode cX5_opensLine 84 = .ok (.bipush 16, 2) := dk_get dk_d01_150 15 rfl
theorem dX5_opensLine_86 : decode cX5_opensLine 86 = .ok (.if_icmp .lt 9, 3) := dk_get dk_d01_150 16 rfl
theorem dX5_opensLine_89 : decode cX5_opensLine 89 = .ok (.aload_n 0, 1) := dk_get dk_d01_150 17 rfl
theorem dX5_opensLine_90 : decode cX5_opensLine 90 = .ok (.iconst 3, 1) := dk_get dk_d01_150 18 rfl
theorem dX5_opensLine_91 : decode cX5_opensLine 91 = .ok (.invokevirtual 104, 3) := dk_get dk_d01_150 19 rfl
theorem dX5_opensLine_94 : decode cX5_opensLine 94 = .ok (.ireturn, 1) := dk_get dk_d01_150 20 rfl
theorem dX5_opensLine_95 : decode cX5_opensLine 95 = .ok (.aload_n 0, 1) := dk_get dk_d01_150 21 rfl
theorem dX5_opensLine_96 : decode cX5_opensLine 96 = .ok (.iconst 0, 1) := dk_get dk_d01_150 22 rfl
theorem dX5_opensLine_97 : decode cX5_opensLine 97 = .ok (.aload_n 0, 1) := dk_get dk_d01_150 23 rfl
theorem dX5_opensLine_98 : decode cX5_opensLine 98 = .ok (.getfield 28, 3) := dk_get dk_d01_150 24 rfl
theorem dk_d01_151 : dkc cX5_opensLine [(101, .invokevirtual 107, 3), (104, .aload_n 0, 1), (105, .invokevirtual 55, 3), (108, .iconst 1, 1), (109, .ireturn, 1)] = true := by decide +kernel
theorem dX5_opensLine_101 : decode cX5_opensLine 101 = .ok (.invokevirtual 107, 3) := dk_get dk_d01_151 0 rfl
theorem dX5_opensLine_104 : decode cX5_opensLine 104 = .ok (.aload_n 0, 1) := dk_get dk_d01_151 1 rfl
theorem dX5_opensLine_105 : decode cX5_opensLine 105 = .ok (.invokevirtual 55, 3) := dk_get dk_d01_151 2 rfl
theorem dX5_opensLine_108 : decode cX5_opensLine 108 = .ok (.iconst 1, 1) := dk_get dk_d01_151 3 rfl
theorem dX5_opensLine_109 : decode cX5_opensLine 109 = .ok (.ireturn, 1) := dk_get dk_d01_151 4 rfl
theorem dk_d01_152 : dkc cX5_plainLine [(0, .iload_n 1, 1), (1, .iconst 2, 1), (2, .if_icmp .ne 27, 3), (5, .aload_n 0, 1), (6, .iconst 0, 1), (7, .sipush 999, 3), (10, .invokevirtual 111, 3), (13, .ifCond .eq 14, 3), (16, .aload_n 0, 1), (17, .invokevirtual 115, 3), (20, .ifCond .eq 7, 3), (23, .iconst 1, 1), (24, .goto 4, 3), (27, .iconst 0, 1), (28, .ireturn, 1), (29, .aload_n 0, 1), (30, .getfield 31, 3), (33, .istore_n 2, 1), (34, .aload_n 0, 1), (35, .iconst 0, 1), (36, .aload_n 0, 1), (37, .getfield 40, 3), (40, .iconst 1, 1), (41, .isub, 1), (42, .invokevirtual 111, 3)] = true := by decide +kernel
theorem dX5_plainLine_0 : decode cX5_plainLine 0 = .ok (.iload_n 1, 1) := dk_get dk_d01_152 0 rfl
theorem dX5_plainLine_1 : decode cX5_plainLine 1 = .ok (.iconst 2, 1) := dk_get dk_d01_152 1 rfl
theorem dX5_plainLine_2 : decode cX5_plainLine 2 = .ok (.if_icmp .ne 27, 3) := dk_get dk_d01_152 2 rfl
theorem dX5_plainLine_5 : decode cX5_plainLine 5 = .ok (.aload_n 0, 1) := dk_get dk_d01_152 3 rfl
theorem dX5_plainLine_6 : decode cX5_plainLine 6 = .ok (.iconst 0, 1) := dk_get dk_d01_152 4 rfl
theorem dX5_plainLine_7 : decode cX5_plainLine 7 = .ok (.sipush 999, 3) := dk_get dk_d01_152 5 rfl
theorem dX5_plainLine_10 : decode cX5_plainLine 10 = .ok (.invokevirtual 111, 3) := dk_get dk_d01_152 6 rfl
theorem dX5_plainLine_13 : decode cX5_plainLine 13 = .ok (.ifCond .eq 14, 3) := dk_get dk_d01_152 7 rfl
theorem dX5_plainLine_16 : decode cX5_plainLine 16 = .ok (.aload_n 0, 1) := dk_get dk_d01_152 8 rfl
theorem dX5_plainLine_17 : decode cX5_plainLine 17 = .ok (.invokevirtual 115, 3) := dk_get dk_d01_152 9 rfl
theorem dX5_plainLine_20 : decode cX5_plainLine 20 = .ok (.ifCond .eq 7, 3) := dk_get dk_d01_152 10 rfl
theorem dX5_plainLine_23 : decode cX5_plainLine 23 = .ok (.iconst 1, 1) := dk_get dk_d01_152 11 rfl
theorem dX5_plainLine_24 : decode cX5_plainLine 24 = .ok (.goto 4, 3) := dk_get dk_d01_152 12 rfl
theorem dX5_plainLine_27 : decode cX5_plainLine 27 = .ok (.iconst 0, 1) := dk_get dk_d01_152 13 rfl
theorem dX5_plainLine_28 : decode cX5_plainLine 28 = .ok (.ireturn, 1) := dk_get dk_d01_152 14 rfl
theorem dX5_plainLine_29 : decode cX5_plainLine 29 = .ok (.aload_n 0, 1) := dk_get dk_d01_152 15 rfl
theorem dX5_plainLine_30 : decode cX5_plainLine 30 = .ok (.getfield 31, 3) := dk_get dk_d01_152 16 rfl
theorem dX5_plainLine_33 : decode cX5_plainLine 33 = .ok (.istore_n 2, 1) := dk_get dk_d01_152 17 rfl
theorem dX5_plainLine_34 : decode cX5_plainLine 34 = .ok (.aload_n 0, 1) := dk_get dk_d01_152 18 rfl
theorem dX5_plainLine_35 : decode cX5_plainLine 35 = .ok (.iconst 0, 1) := dk_get dk_d01_152 19 rfl
theorem dX5_plainLine_36 : decode cX5_plainLine 36 = .ok (.aload_n 0, 1) := dk_get dk_d01_152 20 rfl
theorem dX5_plainLine_37 : decode cX5_plainLine 37 = .ok (.getfield 40, 3) := dk_get dk_d01_152 21 rfl
theorem dX5_plainLine_40 : decode cX5_plainLine 40 = .ok (.iconst 1, 1) := dk_get dk_d01_152 22 rfl
theorem dX5_plainLine_41 : decode cX5_plainLine 41 = .ok (.isub, 1) := dk_get dk_d01_152 23 rfl
theorem dX5_plainLine_42 : decode cX5_plainLine 42 = .ok (.invokevirtual 111, 3) := dk_get dk_d01_152 24 rfl
theorem dk_d01_153 : dkc cX5_plainLine [(45, .ifCond .ne 5, 3), (48, .iconst 0, 1), (49, .ireturn, 1), (50, .iload_n 1, 1), (51, .iconst 1, 1), (52, .if_icmp .ne 49, 3), (55, .aload_n 0, 1), (56, .sipush 318, 3), (59, .invokevirtual 69, 3), (62, .ifCond .eq 37, 3), (65, .aload_n 0, 1), (66, .iconst 1, 1), (67, .bipush 11, 2), (69, .invokevirtual 111, 3), (72, .ifCond .eq 27, 3), (75, .aload_n 0, 1), (76, .sipush 319, 3), (79, .invokevirtual 69, 3), (82, .ifCond .eq 17, 3), (85, .aload_n 0, 1), (86, .iconst 2, 1), (87, .bipush 11, 2), (89, .invokevirtual 111, 3), (92, .ifCond .eq 7, 3), (95, .iconst 1, 1)] = true := by decide +kernel
theorem dX5_plainLine_45 : decode cX5_plainLine 45 = .ok (.ifCond .ne 5, 3) := dk_get dk_d01_153 0 rfl
theorem dX5_plainLine_48 : decode cX5_plainLine 48 = .ok (.iconst 0, 1) := dk_get dk_d01_153 1 rfl
theorem dX5_plainLine_49 : decode cX5_plainLine 49 = .ok (.ireturn, 1) := dk_get dk_d01_153 2 rfl
theorem dX5_plainLine_50 : decode cX5_plainLine 50 = .ok (.iload_n 1, 1) := dk_get dk_d01_153 3 rfl
theorem dX5_plainLine_51 : decode cX5_plainLine 51 = .ok (.iconst 1, 1) := dk_get dk_d01_153 4 rfl
theorem dX5_plainLine_52 : decode cX5_plainLine 52 = .ok (.if_icmp .ne 49, 3) := dk_get dk_d01_153 5 rfl
theorem dX5_plainLine_55 : decode cX5_plainLine 55 = .ok (.aload_n 0, 1) := dk_get dk_d01_153 6 rfl
theorem dX5_plainLine_56 : decode cX5_plainLine 56 = .ok (.sipush 318, 3) := dk_get dk_d01_153 7 rfl
theorem dX5_plainLine_59 : decode cX5_plainLine 59 = .ok (.invokevirtual 69, 3) := dk_get dk_d01_153 8 rfl
theorem dX5_plainLine_62 : decode cX5_plainLine 62 = .ok (.ifCond .eq 37, 3) := dk_get dk_d01_153 9 rfl
theorem dX5_plainLine_65 : decode cX5_plainLine 65 = .ok (.aload_n 0, 1) := dk_get dk_d01_153 10 rfl
theorem dX5_plainLine_66 : decode cX5_plainLine 66 = .ok (.iconst 1, 1) := dk_get dk_d01_153 11 rfl
theorem dX5_plainLine_67 : decode cX5_plainLine 67 = .ok (.bipush 11, 2) := dk_get dk_d01_153 12 rfl
theorem dX5_plainLine_69 : decode cX5_plainLine 69 = .ok (.invokevirtual 111, 3) := dk_get dk_d01_153 13 rfl
theorem dX5_plainLine_72 : decode cX5_plainLine 72 = .ok (.ifCond .eq 27, 3) := dk_get dk_d01_153 14 rfl
theorem dX5_plainLine_75 : decode cX5_plainLine 75 = .ok (.aload_n 0, 1) := dk_get dk_d01_153 15 rfl
theorem dX5_plainLine_76 : decode cX5_plainLine 76 = .ok (.sipush 319, 3) := dk_get dk_d01_153 16 rfl
theorem dX5_plainLine_79 : decode cX5_plainLine 79 = .ok (.invokevirtual 69, 3) := dk_get dk_d01_153 17 rfl
theorem dX5_plainLine_82 : decode cX5_plainLine 82 = .ok (.ifCond .eq 17, 3) := dk_get dk_d01_153 18 rfl
theorem dX5_plainLine_85 : decode cX5_plainLine 85 = .ok (.aload_n 0, 1) := dk_get dk_d01_153 19 rfl
theorem dX5_plainLine_86 : decode cX5_plainLine 86 = .ok (.iconst 2, 1) := dk_get dk_d01_153 20 rfl
theorem dX5_plainLine_87 : decode cX5_plainLine 87 = .ok (.bipush 11, 2) := dk_get dk_d01_153 21 rfl
theorem dX5_plainLine_89 : decode cX5_plainLine 89 = .ok (.invokevirtual 111, 3) := dk_get dk_d01_153 22 rfl
theorem dX5_plainLine_92 : decode cX5_plainLine 92 = .ok (.ifCond .eq 7, 3) := dk_get dk_d01_153 23 rfl
theorem dX5_plainLine_95 : decode cX5_plainLine 95 = .ok (.iconst 1, 1) := dk_get dk_d01_153 24 rfl
theorem dk_d01_154 : dkc cX5_plainLine [(96, .goto 4, 3), (99, .iconst 0, 1), (100, .ireturn, 1), (101, .aload_n 0, 1), (102, .sipush 325, 3), (105, .invokevirtual 69, 3), (108, .ifCond .ne 5, 3), (111, .iconst 0, 1), (112, .ireturn, 1), (113, .aload_n 0, 1), (114, .getfield 28, 3), (117, .iconst 1, 1), (118, .if_icmp .ne 17, 3), (121, .aload_n 0, 1), (122, .getfield 31, 3), (125, .iload_n 2, 1), (126, .if_icmp .ne 9, 3), (129, .aload_n 0, 1), (130, .iconst 2, 1), (131, .invokevirtual 104, 3), (134, .ireturn, 1), (135, .aload_n 0, 1), (136, .iconst 1, 1), (137, .aload_n 0, 1), (138, .getfield 40, 3)] = true := by decide +kernel
theorem dX5_plainLine_96 : decode cX5_plainLine 96 = .ok (.goto 4, 3) := dk_get dk_d01_154 0 rfl
theorem dX5_plainLine_99 : decode cX5_plainLine 99 = .ok (.iconst 0, 1) := dk_get dk_d01_154 1 rfl
theorem dX5_plainLine_100 : decode cX5_plainLine 100 = .ok (.ireturn, 1) := dk_get dk_d01_154 2 rfl
theorem dX5_plainLine_101 : decode cX5_plainLine 101 = .ok (.aload_n 0, 1) := dk_get dk_d01_154 3 rfl
theorem dX5_plainLine_102 : decode cX5_plainLine 102 = .ok (.sipush 325, 3) := dk_get dk_d01_154 4 rfl
theorem dX5_plainLine_105 : decode cX5_plainLine 105 = .ok (.invokevirtual 69, 3) := dk_get dk_d01_154 5 rfl
theorem dX5_plainLine_108 : decode cX5_plainLine 108 = .ok (.ifCond .ne 5, 3) := dk_get dk_d01_154 6 rfl
theorem dX5_plainLine_111 : decode cX5_plainLine 111 = .ok (.iconst 0, 1) := dk_get dk_d01_154 7 rfl
theorem dX5_plainLine_112 : decode cX5_plainLine 112 = .ok (.ireturn, 1) := dk_get dk_d01_154 8 rfl
theorem dX5_plainLine_113 : decode cX5_plainLine 113 = .ok (.aload_n 0, 1) := dk_get dk_d01_154 9 rfl
theorem dX5_plainLine_114 : decode cX5_plainLine 114 = .ok (.getfield 28, 3) := dk_get dk_d01_154 10 rfl
theorem dX5_plainLine_117 : decode cX5_plainLine 117 = .ok (.iconst 1, 1) := dk_get dk_d01_154 11 rfl
theorem dX5_plainLine_118 : decode cX5_plainLine 118 = .ok (.if_icmp .ne 17, 3) := dk_get dk_d01_154 12 rfl
theorem dX5_plainLine_121 : decode cX5_plainLine 121 = .ok (.aload_n 0, 1) := dk_get dk_d01_154 13 rfl
theorem dX5_plainLine_122 : decode cX5_plainLine 122 = .ok (.getfield 31, 3) := dk_get dk_d01_154 14 rfl
theorem dX5_plainLine_125 : decode cX5_plainLine 125 = .ok (.iload_n 2, 1) := dk_get dk_d01_154 15 rfl
theorem dX5_plainLine_126 : decode cX5_plainLine 126 = .ok (.if_icmp .ne 9, 3) := dk_get dk_d01_154 16 rfl
theorem dX5_plainLine_129 : decode cX5_plainLine 129 = .ok (.aload_n 0, 1) := dk_get dk_d01_154 17 rfl
theorem dX5_plainLine_130 : decode cX5_plainLine 130 = .ok (.iconst 2, 1) := dk_get dk_d01_154 18 rfl
theorem dX5_plainLine_131 : decode cX5_plainLine 131 = .ok (.invokevirtual 104, 3) := dk_get dk_d01_154 19 rfl
theorem dX5_plainLine_134 : decode cX5_plainLine 134 = .ok (.ireturn, 1) := dk_get dk_d01_154 20 rfl
theorem dX5_plainLine_135 : decode cX5_plainLine 135 = .ok (.aload_n 0, 1) := dk_get dk_d01_154 21 rfl
theorem dX5_plainLine_136 : decode cX5_plainLine 136 = .ok (.iconst 1, 1) := dk_get dk_d01_154 22 rfl
theorem dX5_plainLine_137 : decode cX5_plainLine 137 = .ok (.aload_n 0, 1) := dk_get dk_d01_154 23 rfl
theorem dX5_plainLine_138 : decode cX5_plainLine 138 = .ok (.getfield 40, 3) := dk_get dk_d01_154 24 rfl
theorem dk_d01_155 : dkc cX5_plainLine [(141, .iconst 1, 1), (142, .isub, 1), (143, .invokevirtual 111, 3), (146, .ireturn, 1)] = true := by decide +kernel
theorem dX5_plainLine_141 : decode cX5_plainLine 141 = .ok (.iconst 1, 1) := dk_get dk_d01_155 0 rfl
theorem dX5_plainLine_142 : decode cX5_plainLine 142 = .ok (.isub, 1) := dk_get dk_d01_155 1 rfl
theorem dX5_plainLine_143 : decode cX5_plainLine 143 = .ok (.invokevirtual 111, 3) := dk_get dk_d01_155 2 rfl
theorem dX5_plainLine_146 : decode cX5_plainLine 146 = .ok (.ireturn, 1) := dk_get dk_d01_155 3 rfl
theorem dk_d01_156 : dkc cX5_skyLine [(0, .aload_n 0, 1), (1, .iconst 1, 1), (2, .aload_n 0, 1), (3, .getfield 28, 3), (6, .invokevirtual 107, 3), (9, .aload_n 0, 1), (10, .getfield 28, 3), (13, .sipush 307, 3), (16, .if_icmp .ne 43, 3), (19, .aload_n 0, 1), (20, .invokevirtual 55, 3), (23, .aload_n 0, 1), (24, .iconst 3, 1), (25, .bipush 9, 2), (27, .invokevirtual 111, 3), (30, .ifCond .eq 27, 3), (33, .aload_n 0, 1), (34, .sipush 318, 3), (37, .invokevirtual 69, 3), (40, .ifCond .eq 17, 3), (43, .aload_n 0, 1), (44, .iconst 2, 1), (45, .bipush 11, 2), (47, .invokevirtual 111, 3), (50, .ifCond .eq 7, 3)] = true := by decide +kernel
theorem dX5_skyLine_0 : decode cX5_skyLine 0 = .ok (.aload_n 0, 1) := dk_get dk_d01_156 0 rfl
theorem dX5_skyLine_1 : decode cX5_skyLine 1 = .ok (.iconst 1, 1) := dk_get dk_d01_156 1 rfl
theorem dX5_skyLine_2 : decode cX5_skyLine 2 = .ok (.aload_n 0, 1) := dk_get dk_d01_156 2 rfl
theorem dX5_skyLine_3 : decode cX5_skyLine 3 = .ok (.getfield 28, 3) := dk_get dk_d01_156 3 rfl
theorem dX5_skyLine_6 : decode cX5_skyLine 6 = .ok (.invokevirtual 107, 3) := dk_get dk_d01_156 4 rfl
theorem dX5_skyLine_9 : decode cX5_skyLine 9 = .ok (.aload_n 0, 1) := dk_get dk_d01_156 5 rfl
theorem dX5_skyLine_10 : decode cX5_skyLine 10 = .ok (.getfield 28, 3) := dk_get dk_d01_156 6 rfl
theorem dX5_skyLine_13 : decode cX5_skyLine 13 = .ok (.sipush 307, 3) := dk_get dk_d01_156 7 rfl
theorem dX5_skyLine_16 : decode cX5_skyLine 16 = .ok (.if_icmp .ne 43, 3) := dk_get dk_d01_156 8 rfl
theorem dX5_skyLine_19 : decode cX5_skyLine 19 = .ok (.aload_n 0, 1) := dk_get dk_d01_156 9 rfl
theorem dX5_skyLine_20 : decode cX5_skyLine 20 = .ok (.invokevirtual 55, 3) := dk_get dk_d01_156 10 rfl
theorem dX5_skyLine_23 : decode cX5_skyLine 23 = .ok (.aload_n 0, 1) := dk_get dk_d01_156 11 rfl
theorem dX5_skyLine_24 : decode cX5_skyLine 24 = .ok (.iconst 3, 1) := dk_get dk_d01_156 12 rfl
theorem dX5_skyLine_25 : decode cX5_skyLine 25 = .ok (.bipush 9, 2) := dk_get dk_d01_156 13 rfl
theorem dX5_skyLine_27 : decode cX5_skyLine 27 = .ok (.invokevirtual 111, 3) := dk_get dk_d01_156 14 rfl
theorem dX5_skyLine_30 : decode cX5_skyLine 30 = .ok (.ifCond .eq 27, 3) := dk_get dk_d01_156 15 rfl
theorem dX5_skyLine_33 : decode cX5_skyLine 33 = .ok (.aload_n 0, 1) := dk_get dk_d01_156 16 rfl
theorem dX5_skyLine_34 : decode cX5_skyLine 34 = .ok (.sipush 318, 3) := dk_get dk_d01_156 17 rfl
theorem dX5_skyLine_37 : decode cX5_skyLine 37 = .ok (.invokevirtual 69, 3) := dk_get dk_d01_156 18 rfl
theorem dX5_skyLine_40 : decode cX5_skyLine 40 = .ok (.ifCond .eq 17, 3) := dk_get dk_d01_156 19 rfl
theorem dX5_skyLine_43 : decode cX5_skyLine 43 = .ok (.aload_n 0, 1) := dk_get dk_d01_156 20 rfl
theorem dX5_skyLine_44 : decode cX5_skyLine 44 = .ok (.iconst 2, 1) := dk_get dk_d01_156 21 rfl
theorem dX5_skyLine_45 : decode cX5_skyLine 45 = .ok (.bipush 11, 2) := dk_get dk_d01_156 22 rfl
theorem dX5_skyLine_47 : decode cX5_skyLine 47 = .ok (.invokevirtual 111, 3) := dk_get dk_d01_156 23 rfl
theorem dX5_skyLine_50 : decode cX5_skyLine 50 = .ok (.ifCond .eq 7, 3) := dk_get dk_d01_156 24 rfl
theorem dk_d01_157 : dkc cX5_skyLine [(53, .iconst 1, 1), (54, .goto 4, 3), (57, .iconst 0, 1), (58, .ireturn, 1), (59, .aload_n 0, 1), (60, .getfield 28, 3), (63, .sipush 321, 3), (66, .if_icmp .ne 53, 3), (69, .aload_n 0, 1), (70, .invokevirtual 55, 3), (73, .aload_n 0, 1), (74, .sipush 318, 3), (77, .invokevirtual 69, 3), (80, .ifCond .eq 37, 3), (83, .aload_n 0, 1), (84, .iconst 2, 1), (85, .bipush 11, 2), (87, .invokevirtual 111, 3), (90, .ifCond .eq 27, 3), (93, .aload_n 0, 1), (94, .iconst 3, 1), (95, .bipush 11, 2), (97, .invokevirtual 111, 3), (100, .ifCond .eq 17, 3), (103, .aload_n 0, 1)] = true := by decide +kernel
theorem dX5_skyLine_53 : decode cX5_skyLine 53 = .ok (.iconst 1, 1) := dk_get dk_d01_157 0 rfl
theorem dX5_skyLine_54 : decode cX5_skyLine 54 = .ok (.goto 4, 3) := dk_get dk_d01_157 1 rfl
theorem dX5_skyLine_57 : decode cX5_skyLine 57 = .ok (.iconst 0, 1) := dk_get dk_d01_157 2 rfl
theorem dX5_skyLine_58 : decode cX5_skyLine 58 = .ok (.ireturn, 1) := dk_get dk_d01_157 3 rfl
theorem dX5_skyLine_59 : decode cX5_skyLine 59 = .ok (.aload_n 0, 1) := dk_get dk_d01_157 4 rfl
theorem dX5_skyLine_60 : decode cX5_skyLine 60 = .ok (.getfield 28, 3) := dk_get dk_d01_157 5 rfl
theorem dX5_skyLine_63 : decode cX5_skyLine 63 = .ok (.sipush 321, 3) := dk_get dk_d01_157 6 rfl
theorem dX5_skyLine_66 : decode cX5_skyLine 66 = .ok (.if_icmp .ne 53, 3) := dk_get dk_d01_157 7 rfl
theorem dX5_skyLine_69 : decode cX5_skyLine 69 = .ok (.aload_n 0, 1) := dk_get dk_d01_157 8 rfl
theorem dX5_skyLine_70 : decode cX5_skyLine 70 = .ok (.invokevirtual 55, 3) := dk_get dk_d01_157 9 rfl
theorem dX5_skyLine_73 : decode cX5_skyLine 73 = .ok (.aload_n 0, 1) := dk_get dk_d01_157 10 rfl
theorem dX5_skyLine_74 : decode cX5_skyLine 74 = .ok (.sipush 318, 3) := dk_get dk_d01_157 11 rfl
theorem dX5_skyLine_77 : decode cX5_skyLine 77 = .ok (.invokevirtual 69, 3) := dk_get dk_d01_157 12 rfl
theorem dX5_skyLine_80 : decode cX5_skyLine 80 = .ok (.ifCond .eq 37, 3) := dk_get dk_d01_157 13 rfl
theorem dX5_skyLine_83 : decode cX5_skyLine 83 = .ok (.aload_n 0, 1) := dk_get dk_d01_157 14 rfl
theorem dX5_skyLine_84 : decode cX5_skyLine 84 = .ok (.iconst 2, 1) := dk_get dk_d01_157 15 rfl
theorem dX5_skyLine_85 : decode cX5_skyLine 85 = .ok (.bipush 11, 2) := dk_get dk_d01_157 16 rfl
theorem dX5_skyLine_87 : decode cX5_skyLine 87 = .ok (.invokevirtual 111, 3) := dk_get dk_d01_157 17 rfl
theorem dX5_skyLine_90 : decode cX5_skyLine 90 = .ok (.ifCond .eq 27, 3) := dk_get dk_d01_157 18 rfl
theorem dX5_skyLine_93 : decode cX5_skyLine 93 = .ok (.aload_n 0, 1) := dk_get dk_d01_157 19 rfl
theorem dX5_skyLine_94 : decode cX5_skyLine 94 = .ok (.iconst 3, 1) := dk_get dk_d01_157 20 rfl
theorem dX5_skyLine_95 : decode cX5_skyLine 95 = .ok (.bipush 11, 2) := dk_get dk_d01_157 21 rfl
theorem dX5_skyLine_97 : decode cX5_skyLine 97 = .ok (.invokevirtual 111, 3) := dk_get dk_d01_157 22 rfl
theorem dX5_skyLine_100 : decode cX5_skyLine 100 = .ok (.ifCond .eq 17, 3) := dk_get dk_d01_157 23 rfl
theorem dX5_skyLine_103 : decode cX5_skyLine 103 = .ok (.aload_n 0, 1) := dk_get dk_d01_157 24 rfl
theorem dk_d01_158 : dkc cX5_skyLine [(104, .iconst 4, 1), (105, .bipush 11, 2), (107, .invokevirtual 111, 3), (110, .ifCond .eq 7, 3), (113, .iconst 1, 1), (114, .goto 4, 3), (117, .iconst 0, 1), (118, .ireturn, 1), (119, .aload_n 0, 1), (120, .getfield 28, 3), (123, .sipush 303, 3), (126, .if_icmp .ne 40, 3), (129, .aload_n 0, 1), (130, .invokevirtual 55, 3), (133, .aload_n 0, 1), (134, .iconst 2, 1), (135, .iconst 0, 1), (136, .invokevirtual 107, 3), (139, .aload_n 0, 1), (140, .iconst 3, 1), (141, .aload_n 0, 1), (142, .getfield 40, 3), (145, .iconst 1, 1), (146, .isub, 1), (147, .invokevirtual 111, 3)] = true := by decide +kernel
theorem dX5_skyLine_104 : decode cX5_skyLine 104 = .ok (.iconst 4, 1) := dk_get dk_d01_158 0 rfl
theorem dX5_skyLine_105 : decode cX5_skyLine 105 = .ok (.bipush 11, 2) := dk_get dk_d01_158 1 rfl
theorem dX5_skyLine_107 : decode cX5_skyLine 107 = .ok (.invokevirtual 111, 3) := dk_get dk_d01_158 2 rfl
theorem dX5_skyLine_110 : decode cX5_skyLine 110 = .ok (.ifCond .eq 7, 3) := dk_get dk_d01_158 3 rfl
theorem dX5_skyLine_113 : decode cX5_skyLine 113 = .ok (.iconst 1, 1) := dk_get dk_d01_158 4 rfl
theorem dX5_skyLine_114 : decode cX5_skyLine 114 = .ok (.goto 4, 3) := dk_get dk_d01_158 5 rfl
theorem dX5_skyLine_117 : decode cX5_skyLine 117 = .ok (.iconst 0, 1) := dk_get dk_d01_158 6 rfl
theorem dX5_skyLine_118 : decode cX5_skyLine 118 = .ok (.ireturn, 1) := dk_get dk_d01_158 7 rfl
theorem dX5_skyLine_119 : decode cX5_skyLine 119 = .ok (.aload_n 0, 1) := dk_get dk_d01_158 8 rfl
theorem dX5_skyLine_120 : decode cX5_skyLine 120 = .ok (.getfield 28, 3) := dk_get dk_d01_158 9 rfl
theorem dX5_skyLine_123 : decode cX5_skyLine 123 = .ok (.sipush 303, 3) := dk_get dk_d01_158 10 rfl
theorem dX5_skyLine_126 : decode cX5_skyLine 126 = .ok (.if_icmp .ne 40, 3) := dk_get dk_d01_158 11 rfl
theorem dX5_skyLine_129 : decode cX5_skyLine 129 = .ok (.aload_n 0, 1) := dk_get dk_d01_158 12 rfl
theorem dX5_skyLine_130 : decode cX5_skyLine 130 = .ok (.invokevirtual 55, 3) := dk_get dk_d01_158 13 rfl
theorem dX5_skyLine_133 : decode cX5_skyLine 133 = .ok (.aload_n 0, 1) := dk_get dk_d01_158 14 rfl
theorem dX5_skyLine_134 : decode cX5_skyLine 134 = .ok (.iconst 2, 1) := dk_get dk_d01_158 15 rfl
theorem dX5_skyLine_135 : decode cX5_skyLine 135 = .ok (.iconst 0, 1) := dk_get dk_d01_158 16 rfl
theorem dX5_skyLine_136 : decode cX5_skyLine 136 = .ok (.invokevirtual 107, 3) := dk_get dk_d01_158 17 rfl
theorem dX5_skyLine_139 : decode cX5_skyLine 139 = .ok (.aload_n 0, 1) := dk_get dk_d01_158 18 rfl
theorem dX5_skyLine_140 : decode cX5_skyLine 140 = .ok (.iconst 3, 1) := dk_get dk_d01_158 19 rfl
theorem dX5_skyLine_141 : decode cX5_skyLine 141 = .ok (.aload_n 0, 1) := dk_get dk_d01_158 20 rfl
theorem dX5_skyLine_142 : decode cX5_skyLine 142 = .ok (.getfield 40, 3) := dk_get dk_d01_158 21 rfl
theorem dX5_skyLine_145 : decode cX5_skyLine 145 = .ok (.iconst 1, 1) := dk_get dk_d01_158 22 rfl
theorem dX5_skyLine_146 : decode cX5_skyLine 146 = .ok (.isub, 1) := dk_get dk_d01_158 23 rfl
theorem dX5_skyLine_147 : decode cX5_skyLine 147 = .ok (.invokevirtual 111, 3) := dk_get dk_d01_158 24 rfl
theorem dk_d01_159 : dkc cX5_skyLine [(150, .ifCond .eq 14, 3), (153, .aload_n 0, 1), (154, .invokevirtual 118, 3), (157, .ifCond .eq 7, 3), (160, .iconst 1, 1), (161, .goto 4, 3), (164, .iconst 0, 1), (165, .ireturn, 1), (166, .aload_n 0, 1), (167, .iconst 1, 1), (168, .invokevirtual 104, 3), (171, .ireturn, 1)] = true := by decide +kernel
theorem dX5_skyLine_150 : decode cX5_skyLine 150 = .ok (.ifCond .eq 14, 3) := dk_get dk_d01_159 0 rfl
theorem dX5_skyLine_153 : decode cX5_skyLine 153 = .ok (.aload_n 0, 1) := dk_get dk_d01_159 1 rfl
theorem dX5_skyLine_154 : decode cX5_skyLine 154 = .ok (.invokevirtual 118, 3) := dk_get dk_d01_159 2 rfl
theorem dX5_skyLine_157 : decode cX5_skyLine 157 = .ok (.ifCond .eq 7, 3) := dk_get dk_d01_159 3 rfl
theorem dX5_skyLine_160 : decode cX5_skyLine 160 = .ok (.iconst 1, 1) := dk_get dk_d01_159 4 rfl
theorem dX5_skyLine_161 : decode cX5_skyLine 161 = .ok (.goto 4, 3) := dk_get dk_d01_159 5 rfl
theorem dX5_skyLine_164 : decode cX5_skyLine 164 = .ok (.iconst 0, 1) := dk_get dk_d01_159 6 rfl
theorem dX5_skyLine_165 : decode cX5_skyLine 165 = .ok (.ireturn, 1) := dk_get dk_d01_159 7 rfl
theorem dX5_skyLine_166 : decode cX5_skyLine 166 = .ok (.aload_n 0, 1) := dk_get dk_d01_159 8 rfl
theorem dX5_skyLine_167 : decode cX5_skyLine 167 = .ok (.iconst 1, 1) := dk_get dk_d01_159 9 rfl
theorem dX5_skyLine_168 : decode cX5_skyLine 168 = .ok (.invokevirtual 104, 3) := dk_get dk_d01_159 10 rfl
theorem dX5_skyLine_171 : decode cX5_skyLine 171 = .ok (.ireturn, 1) := dk_get dk_d01_159 11 rfl
theorem dk_d01_160 : dkc cX5_mindWord [(0, .aload_n 0, 1), (1, .getfield 28, 3), (4, .sipush 322, 3), (7, .if_icmp .eq 29, 3), (10, .aload_n 0, 1), (11, .getfield 28, 3), (14, .sipush 323, 3), (17, .if_icmp .eq 19, 3), (20, .aload_n 0, 1), (21, .getfield 28, 3), (24, .sipush 324, 3), (27, .if_icmp .eq 9, 3), (30, .aload_n 0, 1), (31, .iconst 1, 1), (32, .invokevirtual 104, 3), (35, .ireturn, 1), (36, .aload_n 0, 1), (37, .getfield 28, 3), (40, .sipush 322, 3), (43, .if_icmp .ne 7, 3), (46, .iconst 1, 1), (47, .goto 4, 3), (50, .iconst 0, 1), (51, .istore_n 1, 1), (52, .aload_n 0, 1)] = true := by decide +kernel
theorem dX5_mindWord_0 : decode cX5_mindWord 0 = .ok (.aload_n 0, 1) := dk_get dk_d01_160 0 rfl
theorem dX5_mindWord_1 : decode cX5_mindWord 1 = .ok (.getfield 28, 3) := dk_get dk_d01_160 1 rfl
theorem dX5_mindWord_4 : decode cX5_mindWord 4 = .ok (.sipush 322, 3) := dk_get dk_d01_160 2 rfl
theorem dX5_mindWord_7 : decode cX5_mindWord 7 = .ok (.if_icmp .eq 29, 3) := dk_get dk_d01_160 3 rfl
theorem dX5_mindWord_10 : decode cX5_mindWord 10 = .ok (.aload_n 0, 1) := dk_get dk_d01_160 4 rfl
theorem dX5_mindWord_11 : decode cX5_mindWord 11 = .ok (.getfield 28, 3) := dk_get dk_d01_160 5 rfl
theorem dX5_mindWord_14 : decode cX5_mindWord 14 = .ok (.sipush 323, 3) := dk_get dk_d01_160 6 rfl
theorem dX5_mindWord_17 : decode cX5_mindWord 17 = .ok (.if_icmp .eq 19, 3) := dk_get dk_d01_160 7 rfl
theorem dX5_mindWord_20 : decode cX5_mindWord 20 = .ok (.aload_n 0, 1) := dk_get dk_d01_160 8 rfl
theorem dX5_mindWord_21 : decode cX5_mindWord 21 = .ok (.getfield 28, 3) := dk_get dk_d01_160 9 rfl
theorem dX5_mindWord_24 : decode cX5_mindWord 24 = .ok (.sipush 324, 3) := dk_get dk_d01_160 10 rfl
theorem dX5_mindWord_27 : decode cX5_mindWord 27 = .ok (.if_icmp .eq 9, 3) := dk_get dk_d01_160 11 rfl
theorem dX5_mindWord_30 : decode cX5_mindWord 30 = .ok (.aload_n 0, 1) := dk_get dk_d01_160 12 rfl
theorem dX5_mindWord_31 : decode cX5_mindWord 31 = .ok (.iconst 1, 1) := dk_get dk_d01_160 13 rfl
theorem dX5_mindWord_32 : decode cX5_mindWord 32 = .ok (.invokevirtual 104, 3) := dk_get dk_d01_160 14 rfl
theorem dX5_mindWord_35 : decode cX5_mindWord 35 = .ok (.ireturn, 1) := dk_get dk_d01_160 15 rfl
theorem dX5_mindWord_36 : decode cX5_mindWord 36 = .ok (.aload_n 0, 1) := dk_get dk_d01_160 16 rfl
theorem dX5_mindWord_37 : decode cX5_mindWord 37 = .ok (.getfield 28, 3) := dk_get dk_d01_160 17 rfl
theorem dX5_mindWord_40 : decode cX5_mindWord 40 = .ok (.sipush 322, 3) := dk_get dk_d01_160 18 rfl
theorem dX5_mindWord_43 : decode cX5_mindWord 43 = .ok (.if_icmp .ne 7, 3) := dk_get dk_d01_160 19 rfl
theorem dX5_mindWord_46 : decode cX5_mindWord 46 = .ok (.iconst 1, 1) := dk_get dk_d01_160 20 rfl
theorem dX5_mindWord_47 : decode cX5_mindWord 47 = .ok (.goto 4, 3) := dk_get dk_d01_160 21 rfl
theorem dX5_mindWord_50 : decode cX5_mindWord 50 = .ok (.iconst 0, 1) := dk_get dk_d01_160 22 rfl
theorem dX5_mindWord_51 : decode cX5_mindWord 51 = .ok (.istore_n 1, 1) := dk_get dk_d01_160 23 rfl
theorem dX5_mindWord_52 : decode cX5_mindWord 52 = .ok (.aload_n 0, 1) := dk_get dk_d01_160 24 rfl
theorem dk_d01_161 : dkc cX5_mindWord [(53, .iconst 4, 1), (54, .aload_n 0, 1), (55, .getfield 28, 3), (58, .sipush 323, 3), (61, .if_icmp .ne 7, 3), (64, .iconst (-1), 1), (65, .goto 4, 3), (68, .iload_n 1, 1), (69, .invokevirtual 107, 3), (72, .aload_n 0, 1), (73, .invokevirtual 55, 3), (76, .iconst 1, 1), (77, .ireturn, 1)] = true := by decide +kernel
theorem dX5_mindWord_53 : decode cX5_mindWord 53 = .ok (.iconst 4, 1) := dk_get dk_d01_161 0 rfl
theorem dX5_mindWord_54 : decode cX5_mindWord 54 = .ok (.aload_n 0, 1) := dk_get dk_d01_161 1 rfl
theorem dX5_mindWord_55 : decode cX5_mindWord 55 = .ok (.getfield 28, 3) := dk_get dk_d01_161 2 rfl
theorem dX5_mindWord_58 : decode cX5_mindWord 58 = .ok (.sipush 323, 3) := dk_get dk_d01_161 3 rfl
theorem dX5_mindWord_61 : decode cX5_mindWord 61 = .ok (.if_icmp .ne 7, 3) := dk_get dk_d01_161 4 rfl
theorem dX5_mindWord_64 : decode cX5_mindWord 64 = .ok (.iconst (-1), 1) := dk_get dk_d01_161 5 rfl
theorem dX5_mindWord_65 : decode cX5_mindWord 65 = .ok (.goto 4, 3) := dk_get dk_d01_161 6 rfl
theorem dX5_mindWord_68 : decode cX5_mindWord 68 = .ok (.iload_n 1, 1) := dk_get dk_d01_161 7 rfl
theorem dX5_mindWord_69 : decode cX5_mindWord 69 = .ok (.invokevirtual 107, 3) := dk_get dk_d01_161 8 rfl
theorem dX5_mindWord_72 : decode cX5_mindWord 72 = .ok (.aload_n 0, 1) := dk_get dk_d01_161 9 rfl
theorem dX5_mindWord_73 : decode cX5_mindWord 73 = .ok (.invokevirtual 55, 3) := dk_get dk_d01_161 10 rfl
theorem dX5_mindWord_76 : decode cX5_mindWord 76 = .ok (.iconst 1, 1) := dk_get dk_d01_161 11 rfl
theorem dX5_mindWord_77 : decode cX5_mindWord 77 = .ok (.ireturn, 1) := dk_get dk_d01_161 12 rfl
theorem dk_d01_162 : dkc cX5_lawLine [(0, .aload_n 0, 1), (1, .iconst 1, 1), (2, .aload_n 0, 1), (3, .getfield 52, 3), (6, .invokevirtual 107, 3), (9, .aload_n 0, 1), (10, .invokevirtual 121, 3), (13, .ifCond .ne 5, 3), (16, .iconst 0, 1), (17, .ireturn, 1), (18, .aload_n 0, 1), (19, .iconst 2, 1), (20, .aload_n 0, 1), (21, .getfield 52, 3), (24, .invokevirtual 107, 3), (27, .aload_n 0, 1), (28, .getfield 28, 3), (31, .sipush 313, 3), (34, .if_icmp .ne 17, 3), (37, .aload_n 0, 1), (38, .invokevirtual 55, 3), (41, .aload_n 0, 1), (42, .iconst 0, 1), (43, .invokevirtual 124, 3), (46, .ifCond .ne 5, 3)] = true := by decide +kernel
theorem dX5_lawLine_0 : decode cX5_lawLine 0 = .ok (.aload_n 0, 1) := dk_get dk_d01_162 0 rfl
theorem dX5_lawLine_1 : decode cX5_lawLine 1 = .ok (.iconst 1, 1) := dk_get dk_d01_162 1 rfl
theorem dX5_lawLine_2 : decode cX5_lawLine 2 = .ok (.aload_n 0, 1) := dk_get dk_d01_162 2 rfl
theorem dX5_lawLine_3 : decode cX5_lawLine 3 = .ok (.getfield 52, 3) := dk_get dk_d01_162 3 rfl
theorem dX5_lawLine_6 : decode cX5_lawLine 6 = .ok (.invokevirtual 107, 3) := dk_get dk_d01_162 4 rfl
theorem dX5_lawLine_9 : decode cX5_lawLine 9 = .ok (.aload_n 0, 1) := dk_get dk_d01_162 5 rfl
theorem dX5_lawLine_10 : decode cX5_lawLine 10 = .ok (.invokevirtual 121, 3) := dk_get dk_d01_162 6 rfl
theorem dX5_lawLine_13 : decode cX5_lawLine 13 = .ok (.ifCond .ne 5, 3) := dk_get dk_d01_162 7 rfl
theorem dX5_lawLine_16 : decode cX5_lawLine 16 = .ok (.iconst 0, 1) := dk_get dk_d01_162 8 rfl
theorem dX5_lawLine_17 : decode cX5_lawLine 17 = .ok (.ireturn, 1) := dk_get dk_d01_162 9 rfl
theorem dX5_lawLine_18 : decode cX5_lawLine 18 = .ok (.aload_n 0, 1) := dk_get dk_d01_162 10 rfl
theorem dX5_lawLine_19 : decode cX5_lawLine 19 = .ok (.iconst 2, 1) := dk_get dk_d01_162 11 rfl
theorem dX5_lawLine_20 : decode cX5_lawLine 20 = .ok (.aload_n 0, 1) := dk_get dk_d01_162 12 rfl
theorem dX5_lawLine_21 : decode cX5_lawLine 21 = .ok (.getfield 52, 3) := dk_get dk_d01_162 13 rfl
theorem dX5_lawLine_24 : decode cX5_lawLine 24 = .ok (.invokevirtual 107, 3) := dk_get dk_d01_162 14 rfl
theorem dX5_lawLine_27 : decode cX5_lawLine 27 = .ok (.aload_n 0, 1) := dk_get dk_d01_162 15 rfl
theorem dX5_lawLine_28 : decode cX5_lawLine 28 = .ok (.getfield 28, 3) := dk_get dk_d01_162 16 rfl
theorem dX5_lawLine_31 : decode cX5_lawLine 31 = .ok (.sipush 313, 3) := dk_get dk_d01_162 17 rfl
theorem dX5_lawLine_34 : decode cX5_lawLine 34 = .ok (.if_icmp .ne 17, 3) := dk_get dk_d01_162 18 rfl
theorem dX5_lawLine_37 : decode cX5_lawLine 37 = .ok (.aload_n 0, 1) := dk_get dk_d01_162 19 rfl
theorem dX5_lawLine_38 : decode cX5_lawLine 38 = .ok (.invokevirtual 55, 3) := dk_get dk_d01_162 20 rfl
theorem dX5_lawLine_41 : decode cX5_lawLine 41 = .ok (.aload_n 0, 1) := dk_get dk_d01_162 21 rfl
theorem dX5_lawLine_42 : decode cX5_lawLine 42 = .ok (.iconst 0, 1) := dk_get dk_d01_162 22 rfl
theorem dX5_lawLine_43 : decode cX5_lawLine 43 = .ok (.invokevirtual 124, 3) := dk_get dk_d01_162 23 rfl
theorem dX5_lawLine_46 : decode cX5_lawLine 46 = .ok (.ifCond .ne 5, 3) := dk_get dk_d01_162 24 rfl
theorem dk_d01_163 : dkc cX5_lawLine [(49, .iconst 0, 1), (50, .ireturn, 1), (51, .aload_n 0, 1), (52, .iconst 3, 1), (53, .aload_n 0, 1), (54, .getfield 52, 3), (57, .invokevirtual 107, 3), (60, .iconst 1, 1), (61, .ireturn, 1)] = true := by decide +kernel
theorem dX5_lawLine_49 : decode cX5_lawLine 49 = .ok (.iconst 0, 1) := dk_get dk_d01_163 0 rfl
theorem dX5_lawLine_50 : decode cX5_lawLine 50 = .ok (.ireturn, 1) := dk_get dk_d01_163 1 rfl
theorem dX5_lawLine_51 : decode cX5_lawLine 51 = .ok (.aload_n 0, 1) := dk_get dk_d01_163 2 rfl
theorem dX5_lawLine_52 : decode cX5_lawLine 52 = .ok (.iconst 3, 1) := dk_get dk_d01_163 3 rfl
theorem dX5_lawLine_53 : decode cX5_lawLine 53 = .ok (.aload_n 0, 1) := dk_get dk_d01_163 4 rfl
theorem dX5_lawLine_54 : decode cX5_lawLine 54 = .ok (.getfield 52, 3) := dk_get dk_d01_163 5 rfl
theorem dX5_lawLine_57 : decode cX5_lawLine 57 = .ok (.invokevirtual 107, 3) := dk_get dk_d01_163 6 rfl
theorem dX5_lawLine_60 : decode cX5_lawLine 60 = .ok (.iconst 1, 1) := dk_get dk_d01_163 7 rfl
theorem dX5_lawLine_61 : decode cX5_lawLine 61 = .ok (.ireturn, 1) := dk_get dk_d01_163 8 rfl
theorem dk_d01_164 : dkc cX5_emit [(0, .aload_n 0, 1), (1, .getfield 52, 3), (4, .sipush 400, 3), (7, .if_icmp .ge 27, 3), (10, .aload_n 0, 1), (11, .getfield 49, 3), (14, .aload_n 0, 1), (15, .getfield 52, 3), (18, .iload_n 2, 1), (19, .iconst 4, 1), (20, .ishl, 1), (21, .iload_n 1, 1), (22, .ior, 1), (23, .iastore, 1), (24, .aload_n 0, 1), (25, .dup, 1), (26, .getfield 52, 3), (29, .iconst 1, 1), (30, .iadd, 1), (31, .putfield 52, 3), (34, .return_, 1)] = true := by decide +kernel
theorem dX5_emit_0 : decode cX5_emit 0 = .ok (.aload_n 0, 1) := dk_get dk_d01_164 0 rfl
theorem dX5_emit_1 : decode cX5_emit 1 = .ok (.getfield 52, 3) := dk_get dk_d01_164 1 rfl
theorem dX5_emit_4 : decode cX5_emit 4 = .ok (.sipush 400, 3) := dk_get dk_d01_164 2 rfl
theorem dX5_emit_7 : decode cX5_emit 7 = .ok (.if_icmp .ge 27, 3) := dk_get dk_d01_164 3 rfl
theorem dX5_emit_10 : decode cX5_emit 10 = .ok (.aload_n 0, 1) := dk_get dk_d01_164 4 rfl
theorem dX5_emit_11 : decode cX5_emit 11 = .ok (.getfield 49, 3) := dk_get dk_d01_164 5 rfl
theorem dX5_emit_14 : decode cX5_emit 14 = .ok (.aload_n 0, 1) := dk_get dk_d01_164 6 rfl
theorem dX5_emit_15 : decode cX5_emit 15 = .ok (.getfield 52, 3) := dk_get dk_d01_164 7 rfl
theorem dX5_emit_18 : decode cX5_emit 18 = .ok (.iload_n 2, 1) := dk_get dk_d01_164 8 rfl
theorem dX5_emit_19 : decode cX5_emit 19 = .ok (.iconst 4, 1) := dk_get dk_d01_164 9 rfl
theorem dX5_emit_20 : decode cX5_emit 20 = .ok (.ishl, 1) := dk_get dk_d01_164 10 rfl
theorem dX5_emit_21 : decode cX5_emit 21 = .ok (.iload_n 1, 1) := dk_get dk_d01_164 11 rfl
theorem dX5_emit_22 : decode cX5_emit 22 = .ok (.ior, 1) := dk_get dk_d01_164 12 rfl
theorem dX5_emit_23 : decode cX5_emit 23 = .ok (.iastore, 1) := dk_get dk_d01_164 13 rfl
theorem dX5_emit_24 : decode cX5_emit 24 = .ok (.aload_n 0, 1) := dk_get dk_d01_164 14 rfl
theorem dX5_emit_25 : decode cX5_emit 25 = .ok (.dup, 1) := dk_get dk_d01_164 15 rfl
theorem dX5_emit_26 : decode cX5_emit 26 = .ok (.getfield 52, 3) := dk_get dk_d01_164 16 rfl
theorem dX5_emit_29 : decode cX5_emit 29 = .ok (.iconst 1, 1) := dk_get dk_d01_164 17 rfl
theorem dX5_emit_30 : decode cX5_emit 30 = .ok (.iadd, 1) := dk_get dk_d01_164 18 rfl
theorem dX5_emit_31 : decode cX5_emit 31 = .ok (.putfield 52, 3) := dk_get dk_d01_164 19 rfl
theorem dX5_emit_34 : decode cX5_emit 34 = .ok (.return_, 1) := dk_get dk_d01_164 20 rfl
theorem dk_d01_165 : dkc cX5_readChoice [(0, .iconst 0, 1), (1, .istore_n 2, 1), (2, .iconst 0, 1), (3, .istore_n 3, 1), (4, .iconst 0, 1), (5, .istore 4, 2), (7, .iload 4, 2), (9, .sipush 400, 3), (12, .if_icmp .ge 87, 3), (15, .aload_n 0, 1), (16, .iload_n 1, 1), (17, .invokevirtual 127, 3), (20, .ifCond .ne 5, 3), (23, .iconst 0, 1), (24, .ireturn, 1), (25, .iload_n 3, 1), (26, .ifCond .eq 10, 3), (29, .aload_n 0, 1), (30, .bipush 10, 2), (32, .iconst 0, 1), (33, .invokevirtual 130, 3), (36, .aload_n 0, 1), (37, .getfield 28, 3), (40, .sipush 315, 3), (43, .if_icmp .ne 7, 3)] = true := by decide +kernel
theorem dX5_readChoice_0 : decode cX5_readChoice 0 = .ok (.iconst 0, 1) := dk_get dk_d01_165 0 rfl
theorem dX5_readChoice_1 : decode cX5_readChoice 1 = .ok (.istore_n 2, 1) := dk_get dk_d01_165 1 rfl
theorem dX5_readChoice_2 : decode cX5_readChoice 2 = .ok (.iconst 0, 1) := dk_get dk_d01_165 2 rfl
theorem dX5_readChoice_3 : decode cX5_readChoice 3 = .ok (.istore_n 3, 1) := dk_get dk_d01_165 3 rfl
theorem dX5_readChoice_4 : decode cX5_readChoice 4 = .ok (.iconst 0, 1) := dk_get dk_d01_165 4 rfl
theorem dX5_readChoice_5 : decode cX5_readChoice 5 = .ok (.istore 4, 2) := dk_get dk_d01_165 5 rfl
theorem dX5_readChoice_7 : decode cX5_readChoice 7 = .ok (.iload 4, 2) := dk_get dk_d01_165 6 rfl
theorem dX5_readChoice_9 : decode cX5_readChoice 9 = .ok (.sipush 400, 3) := dk_get dk_d01_165 7 rfl
theorem dX5_readChoice_12 : decode cX5_readChoice 12 = .ok (.if_icmp .ge 87, 3) := dk_get dk_d01_165 8 rfl
theorem dX5_readChoice_15 : decode cX5_readChoice 15 = .ok (.aload_n 0, 1) := dk_get dk_d01_165 9 rfl
theorem dX5_readChoice_16 : decode cX5_readChoice 16 = .ok (.iload_n 1, 1) := dk_get dk_d01_165 10 rfl
theorem dX5_readChoice_17 : decode cX5_readChoice 17 = .ok (.invokevirtual 127, 3) := dk_get dk_d01_165 11 rfl
theorem dX5_readChoice_20 : decode cX5_readChoice 20 = .ok (.ifCond .ne 5, 3) := dk_get dk_d01_165 12 rfl
theorem dX5_readChoice_23 : decode cX5_readChoice 23 = .ok (.iconst 0, 1) := dk_get dk_d01_165 13 rfl
theorem dX5_readChoice_24 : decode cX5_readChoice 24 = .ok (.ireturn, 1) := dk_get dk_d01_165 14 rfl
theorem dX5_readChoice_25 : decode cX5_readChoice 25 = .ok (.iload_n 3, 1) := dk_get dk_d01_165 15 rfl
theorem dX5_readChoice_26 : decode cX5_readChoice 26 = .ok (.ifCond .eq 10, 3) := dk_get dk_d01_165 16 rfl
theorem dX5_readChoice_29 : decode cX5_readChoice 29 = .ok (.aload_n 0, 1) := dk_get dk_d01_165 17 rfl
theorem dX5_readChoice_30 : decode cX5_readChoice 30 = .ok (.bipush 10, 2) := dk_get dk_d01_165 18 rfl
theorem dX5_readChoice_32 : decode cX5_readChoice 32 = .ok (.iconst 0, 1) := dk_get dk_d01_165 19 rfl
theorem dX5_readChoice_33 : decode cX5_readChoice 33 = .ok (.invokevirtual 130, 3) := dk_get dk_d01_165 20 rfl
theorem dX5_readChoice_36 : decode cX5_readChoice 36 = .ok (.aload_n 0, 1) := dk_get dk_d01_165 21 rfl
theorem dX5_readChoice_37 : decode cX5_readChoice 37 = .ok (.getfield 28, 3) := dk_get dk_d01_165 22 rfl
theorem dX5_readChoice_40 : decode cX5_readChoice 40 = .ok (.sipush 315, 3) := dk_get dk_d01_165 23 rfl
theorem dX5_readChoice_43 : decode cX5_readChoice 43 = .ok (.if_icmp .ne 7, 3) := dk_get dk_d01_165 24 rfl
theorem dk_d01_166 : dkc cX5_readChoice [(46, .iconst 1, 1), (47, .goto 4, 3), (50, .iconst 0, 1), (51, .istore_n 3, 1), (52, .iload_n 3, 1), (53, .ifCond .ne 36, 3), (56, .iload_n 2, 1), (57, .ifCond .eq 10, 3), (60, .aload_n 0, 1), (61, .bipush 11, 2), (63, .iconst 0, 1), (64, .invokevirtual 130, 3), (67, .aload_n 0, 1), (68, .getfield 28, 3), (71, .sipush 314, 3), (74, .if_icmp .ne 7, 3), (77, .iconst 1, 1), (78, .goto 4, 3), (81, .iconst 0, 1), (82, .istore_n 2, 1), (83, .iload_n 2, 1), (84, .ifCond .ne 5, 3), (87, .iconst 1, 1), (88, .ireturn, 1), (89, .aload_n 0, 1)] = true := by decide +kernel
theorem dX5_readChoice_46 : decode cX5_readChoice 46 = .ok (.iconst 1, 1) := dk_get dk_d01_166 0 rfl
theorem dX5_readChoice_47 : decode cX5_readChoice 47 = .ok (.goto 4, 3) := dk_get dk_d01_166 1 rfl
theorem dX5_readChoice_50 : decode cX5_readChoice 50 = .ok (.iconst 0, 1) := dk_get dk_d01_166 2 rfl
theorem dX5_readChoice_51 : decode cX5_readChoice 51 = .ok (.istore_n 3, 1) := dk_get dk_d01_166 3 rfl
theorem dX5_readChoice_52 : decode cX5_readChoice 52 = .ok (.iload_n 3, 1) := dk_get dk_d01_166 4 rfl
theorem dX5_readChoice_53 : decode cX5_readChoice 53 = .ok (.ifCond .ne 36, 3) := dk_get dk_d01_166 5 rfl
theorem dX5_readChoice_56 : decode cX5_readChoice 56 = .ok (.iload_n 2, 1) := dk_get dk_d01_166 6 rfl
theorem dX5_readChoice_57 : decode cX5_readChoice 57 = .ok (.ifCond .eq 10, 3) := dk_get dk_d01_166 7 rfl
theorem dX5_readChoice_60 : decode cX5_readChoice 60 = .ok (.aload_n 0, 1) := dk_get dk_d01_166 8 rfl
theorem dX5_readChoice_61 : decode cX5_readChoice 61 = .ok (.bipush 11, 2) := dk_get dk_d01_166 9 rfl
theorem dX5_readChoice_63 : decode cX5_readChoice 63 = .ok (.iconst 0, 1) := dk_get dk_d01_166 10 rfl
theorem dX5_readChoice_64 : decode cX5_readChoice 64 = .ok (.invokevirtual 130, 3) := dk_get dk_d01_166 11 rfl
theorem dX5_readChoice_67 : decode cX5_readChoice 67 = .ok (.aload_n 0, 1) := dk_get dk_d01_166 12 rfl
theorem dX5_readChoice_68 : decode cX5_readChoice 68 = .ok (.getfield 28, 3) := dk_get dk_d01_166 13 rfl
theorem dX5_readChoice_71 : decode cX5_readChoice 71 = .ok (.sipush 314, 3) := dk_get dk_d01_166 14 rfl
theorem dX5_readChoice_74 : decode cX5_readChoice 74 = .ok (.if_icmp .ne 7, 3) := dk_get dk_d01_166 15 rfl
theorem dX5_readChoice_77 : decode cX5_readChoice 77 = .ok (.iconst 1, 1) := dk_get dk_d01_166 16 rfl
theorem dX5_readChoice_78 : decode cX5_readChoice 78 = .ok (.goto 4, 3) := dk_get dk_d01_166 17 rfl
theorem dX5_readChoice_81 : decode cX5_readChoice 81 = .ok (.iconst 0, 1) := dk_get dk_d01_166 18 rfl
theorem dX5_readChoice_82 : decode cX5_readChoice 82 = .ok (.istore_n 2, 1) := dk_get dk_d01_166 19 rfl
theorem dX5_readChoice_83 : decode cX5_readChoice 83 = .ok (.iload_n 2, 1) := dk_get dk_d01_166 20 rfl
theorem dX5_readChoice_84 : decode cX5_readChoice 84 = .ok (.ifCond .ne 5, 3) := dk_get dk_d01_166 21 rfl
theorem dX5_readChoice_87 : decode cX5_readChoice 87 = .ok (.iconst 1, 1) := dk_get dk_d01_166 22 rfl
theorem dX5_readChoice_88 : decode cX5_readChoice 88 = .ok (.ireturn, 1) := dk_get dk_d01_166 23 rfl
theorem dX5_readChoice_89 : decode cX5_readChoice 89 = .ok (.aload_n 0, 1) := dk_get dk_d01_166 24 rfl
theorem dk_d01_167 : dkc cX5_readChoice [(90, .invokevirtual 55, 3), (93, .iinc 4 1, 3), (96, .goto (-89), 3), (99, .aload_n 0, 1), (100, .iconst 1, 1), (101, .invokevirtual 104, 3), (104, .ireturn, 1)] = true := by decide +kernel
theorem dX5_readChoice_90 : decode cX5_readChoice 90 = .ok (.invokevirtual 55, 3) := dk_get dk_d01_167 0 rfl
theorem dX5_readChoice_93 : decode cX5_readChoice 93 = .ok (.iinc 4 1, 3) := dk_get dk_d01_167 1 rfl
theorem dX5_readChoice_96 : decode cX5_readChoice 96 = .ok (.goto (-89), 3) := dk_get dk_d01_167 2 rfl
theorem dX5_readChoice_99 : decode cX5_readChoice 99 = .ok (.aload_n 0, 1) := dk_get dk_d01_167 3 rfl
theorem dX5_readChoice_100 : decode cX5_readChoice 100 = .ok (.iconst 1, 1) := dk_get dk_d01_167 4 rfl
theorem dX5_readChoice_101 : decode cX5_readChoice 101 = .ok (.invokevirtual 104, 3) := dk_get dk_d01_167 5 rfl
theorem dX5_readChoice_104 : decode cX5_readChoice 104 = .ok (.ireturn, 1) := dk_get dk_d01_167 6 rfl
theorem dk_d01_168 : dkc cX5_readTest [(0, .aload_n 0, 1), (1, .getfield 28, 3), (4, .sipush 316, 3), (7, .if_icmp .ne 7, 3), (10, .iconst 1, 1), (11, .goto 4, 3), (14, .iconst 0, 1), (15, .istore_n 2, 1), (16, .iload_n 2, 1), (17, .ifCond .ne 12, 3), (20, .aload_n 0, 1), (21, .getfield 28, 3), (24, .bipush 40, 2), (26, .if_icmp .ne 68, 3), (29, .iload_n 1, 1), (30, .bipush 8, 2), (32, .if_icmp .lt 9, 3), (35, .aload_n 0, 1), (36, .iconst 3, 1), (37, .invokevirtual 104, 3), (40, .ireturn, 1), (41, .aload_n 0, 1), (42, .invokevirtual 55, 3), (45, .iload_n 2, 1), (46, .ifCond .ne 28, 3)] = true := by decide +kernel
theorem dX5_readTest_0 : decode cX5_readTest 0 = .ok (.aload_n 0, 1) := dk_get dk_d01_168 0 rfl
theorem dX5_readTest_1 : decode cX5_readTest 1 = .ok (.getfield 28, 3) := dk_get dk_d01_168 1 rfl
theorem dX5_readTest_4 : decode cX5_readTest 4 = .ok (.sipush 316, 3) := dk_get dk_d01_168 2 rfl
theorem dX5_readTest_7 : decode cX5_readTest 7 = .ok (.if_icmp .ne 7, 3) := dk_get dk_d01_168 3 rfl
theorem dX5_readTest_10 : decode cX5_readTest 10 = .ok (.iconst 1, 1) := dk_get dk_d01_168 4 rfl
theorem dX5_readTest_11 : decode cX5_readTest 11 = .ok (.goto 4, 3) := dk_get dk_d01_168 5 rfl
theorem dX5_readTest_14 : decode cX5_readTest 14 = .ok (.iconst 0, 1) := dk_get dk_d01_168 6 rfl
theorem dX5_readTest_15 : decode cX5_readTest 15 = .ok (.istore_n 2, 1) := dk_get dk_d01_168 7 rfl
theorem dX5_readTest_16 : decode cX5_readTest 16 = .ok (.iload_n 2, 1) := dk_get dk_d01_168 8 rfl
theorem dX5_readTest_17 : decode cX5_readTest 17 = .ok (.ifCond .ne 12, 3) := dk_get dk_d01_168 9 rfl
theorem dX5_readTest_20 : decode cX5_readTest 20 = .ok (.aload_n 0, 1) := dk_get dk_d01_168 10 rfl
theorem dX5_readTest_21 : decode cX5_readTest 21 = .ok (.getfield 28, 3) := dk_get dk_d01_168 11 rfl
theorem dX5_readTest_24 : decode cX5_readTest 24 = .ok (.bipush 40, 2) := dk_get dk_d01_168 12 rfl
theorem dX5_readTest_26 : decode cX5_readTest 26 = .ok (.if_icmp .ne 68, 3) := dk_get dk_d01_168 13 rfl
theorem dX5_readTest_29 : decode cX5_readTest 29 = .ok (.iload_n 1, 1) := dk_get dk_d01_168 14 rfl
theorem dX5_readTest_30 : decode cX5_readTest 30 = .ok (.bipush 8, 2) := dk_get dk_d01_168 15 rfl
theorem dX5_readTest_32 : decode cX5_readTest 32 = .ok (.if_icmp .lt 9, 3) := dk_get dk_d01_168 16 rfl
theorem dX5_readTest_35 : decode cX5_readTest 35 = .ok (.aload_n 0, 1) := dk_get dk_d01_168 17 rfl
theorem dX5_readTest_36 : decode cX5_readTest 36 = .ok (.iconst 3, 1) := dk_get dk_d01_168 18 rfl
theorem dX5_readTest_37 : decode cX5_readTest 37 = .ok (.invokevirtual 104, 3) := dk_get dk_d01_168 19 rfl
theorem dX5_readTest_40 : decode cX5_readTest 40 = .ok (.ireturn, 1) := dk_get dk_d01_168 20 rfl
theorem dX5_readTest_41 : decode cX5_readTest 41 = .ok (.aload_n 0, 1) := dk_get dk_d01_168 21 rfl
theorem dX5_readTest_42 : decode cX5_readTest 42 = .ok (.invokevirtual 55, 3) := dk_get dk_d01_168 22 rfl
theorem dX5_readTest_45 : decode cX5_readTest 45 = .ok (.iload_n 2, 1) := dk_get dk_d01_168 23 rfl
theorem dX5_readTest_46 : decode cX5_readTest 46 = .ok (.ifCond .ne 28, 3) := dk_get dk_d01_168 24 rfl
theorem dk_d01_169 : dkc cX5_readTest [(49, .aload_n 0, 1), (50, .iload_n 1, 1), (51, .iconst 1, 1), (52, .iadd, 1), (53, .invokevirtual 124, 3), (56, .ifCond .eq 16, 3), (59, .aload_n 0, 1), (60, .bipush 41, 2), (62, .invokevirtual 69, 3), (65, .ifCond .eq 7, 3), (68, .iconst 1, 1), (69, .goto 4, 3), (72, .iconst 0, 1), (73, .ireturn, 1), (74, .aload_n 0, 1), (75, .iload_n 1, 1), (76, .iconst 1, 1), (77, .iadd, 1), (78, .invokevirtual 127, 3), (81, .ifCond .ne 5, 3), (84, .iconst 0, 1), (85, .ireturn, 1), (86, .aload_n 0, 1), (87, .iconst 3, 1), (88, .iconst 0, 1)] = true := by decide +kernel
theorem dX5_readTest_49 : decode cX5_readTest 49 = .ok (.aload_n 0, 1) := dk_get dk_d01_169 0 rfl
theorem dX5_readTest_50 : decode cX5_readTest 50 = .ok (.iload_n 1, 1) := dk_get dk_d01_169 1 rfl
theorem dX5_readTest_51 : decode cX5_readTest 51 = .ok (.iconst 1, 1) := dk_get dk_d01_169 2 rfl
theorem dX5_readTest_52 : decode cX5_readTest 52 = .ok (.iadd, 1) := dk_get dk_d01_169 3 rfl
theorem dX5_readTest_53 : decode cX5_readTest 53 = .ok (.invokevirtual 124, 3) := dk_get dk_d01_169 4 rfl
theorem dX5_readTest_56 : decode cX5_readTest 56 = .ok (.ifCond .eq 16, 3) := dk_get dk_d01_169 5 rfl
theorem dX5_readTest_59 : decode cX5_readTest 59 = .ok (.aload_n 0, 1) := dk_get dk_d01_169 6 rfl
theorem dX5_readTest_60 : decode cX5_readTest 60 = .ok (.bipush 41, 2) := dk_get dk_d01_169 7 rfl
theorem dX5_readTest_62 : decode cX5_readTest 62 = .ok (.invokevirtual 69, 3) := dk_get dk_d01_169 8 rfl
theorem dX5_readTest_65 : decode cX5_readTest 65 = .ok (.ifCond .eq 7, 3) := dk_get dk_d01_169 9 rfl
theorem dX5_readTest_68 : decode cX5_readTest 68 = .ok (.iconst 1, 1) := dk_get dk_d01_169 10 rfl
theorem dX5_readTest_69 : decode cX5_readTest 69 = .ok (.goto 4, 3) := dk_get dk_d01_169 11 rfl
theorem dX5_readTest_72 : decode cX5_readTest 72 = .ok (.iconst 0, 1) := dk_get dk_d01_169 12 rfl
theorem dX5_readTest_73 : decode cX5_readTest 73 = .ok (.ireturn, 1) := dk_get dk_d01_169 13 rfl
theorem dX5_readTest_74 : decode cX5_readTest 74 = .ok (.aload_n 0, 1) := dk_get dk_d01_169 14 rfl
theorem dX5_readTest_75 : decode cX5_readTest 75 = .ok (.iload_n 1, 1) := dk_get dk_d01_169 15 rfl
theorem dX5_readTest_76 : decode cX5_readTest 76 = .ok (.iconst 1, 1) := dk_get dk_d01_169 16 rfl
theorem dX5_readTest_77 : decode cX5_readTest 77 = .ok (.iadd, 1) := dk_get dk_d01_169 17 rfl
theorem dX5_readTest_78 : decode cX5_readTest 78 = .ok (.invokevirtual 127, 3) := dk_get dk_d01_169 18 rfl
theorem dX5_readTest_81 : decode cX5_readTest 81 = .ok (.ifCond .ne 5, 3) := dk_get dk_d01_169 19 rfl
theorem dX5_readTest_84 : decode cX5_readTest 84 = .ok (.iconst 0, 1) := dk_get dk_d01_169 20 rfl
theorem dX5_readTest_85 : decode cX5_readTest 85 = .ok (.ireturn, 1) := dk_get dk_d01_169 21 rfl
theorem dX5_readTest_86 : decode cX5_readTest 86 = .ok (.aload_n 0, 1) := dk_get dk_d01_169 22 rfl
theorem dX5_readTest_87 : decode cX5_readTest 87 = .ok (.iconst 3, 1) := dk_get dk_d01_169 23 rfl
theorem dX5_readTest_88 : decode cX5_readTest 88 = .ok (.iconst 0, 1) := dk_get dk_d01_169 24 rfl
theorem dk_d01_170 : dkc cX5_readTest [(89, .invokevirtual 130, 3), (92, .iconst 1, 1), (93, .ireturn, 1), (94, .aload_n 0, 1), (95, .invokevirtual 121, 3), (98, .ifCond .ne 5, 3), (101, .iconst 0, 1), (102, .ireturn, 1), (103, .aload_n 0, 1), (104, .getfield 28, 3), (107, .bipush 60, 2), (109, .if_icmp .eq 27, 3), (112, .aload_n 0, 1), (113, .getfield 28, 3), (116, .bipush 61, 2), (118, .if_icmp .eq 18, 3), (121, .aload_n 0, 1), (122, .getfield 28, 3), (125, .bipush 62, 2), (127, .if_icmp .eq 9, 3), (130, .aload_n 0, 1), (131, .iconst 1, 1), (132, .invokevirtual 104, 3), (135, .ireturn, 1), (136, .bipush 8, 2)] = true := by decide +kernel
theorem dX5_readTest_89 : decode cX5_readTest 89 = .ok (.invokevirtual 130, 3) := dk_get dk_d01_170 0 rfl
theorem dX5_readTest_92 : decode cX5_readTest 92 = .ok (.iconst 1, 1) := dk_get dk_d01_170 1 rfl
theorem dX5_readTest_93 : decode cX5_readTest 93 = .ok (.ireturn, 1) := dk_get dk_d01_170 2 rfl
theorem dX5_readTest_94 : decode cX5_readTest 94 = .ok (.aload_n 0, 1) := dk_get dk_d01_170 3 rfl
theorem dX5_readTest_95 : decode cX5_readTest 95 = .ok (.invokevirtual 121, 3) := dk_get dk_d01_170 4 rfl
theorem dX5_readTest_98 : decode cX5_readTest 98 = .ok (.ifCond .ne 5, 3) := dk_get dk_d01_170 5 rfl
theorem dX5_readTest_101 : decode cX5_readTest 101 = .ok (.iconst 0, 1) := dk_get dk_d01_170 6 rfl
theorem dX5_readTest_102 : decode cX5_readTest 102 = .ok (.ireturn, 1) := dk_get dk_d01_170 7 rfl
theorem dX5_readTest_103 : decode cX5_readTest 103 = .ok (.aload_n 0, 1) := dk_get dk_d01_170 8 rfl
theorem dX5_readTest_104 : decode cX5_readTest 104 = .ok (.getfield 28, 3) := dk_get dk_d01_170 9 rfl
theorem dX5_readTest_107 : decode cX5_readTest 107 = .ok (.bipush 60, 2) := dk_get dk_d01_170 10 rfl
theorem dX5_readTest_109 : decode cX5_readTest 109 = .ok (.if_icmp .eq 27, 3) := dk_get dk_d01_170 11 rfl
theorem dX5_readTest_112 : decode cX5_readTest 112 = .ok (.aload_n 0, 1) := dk_get dk_d01_170 12 rfl
theorem dX5_readTest_113 : decode cX5_readTest 113 = .ok (.getfield 28, 3) := dk_get dk_d01_170 13 rfl
theorem dX5_readTest_116 : decode cX5_readTest 116 = .ok (.bipush 61, 2) := dk_get dk_d01_170 14 rfl
theorem dX5_readTest_118 : decode cX5_readTest 118 = .ok (.if_icmp .eq 18, 3) := dk_get dk_d01_170 15 rfl
theorem dX5_readTest_121 : decode cX5_readTest 121 = .ok (.aload_n 0, 1) := dk_get dk_d01_170 16 rfl
theorem dX5_readTest_122 : decode cX5_readTest 122 = .ok (.getfield 28, 3) := dk_get dk_d01_170 17 rfl
theorem dX5_readTest_125 : decode cX5_readTest 125 = .ok (.bipush 62, 2) := dk_get dk_d01_170 18 rfl
theorem dX5_readTest_127 : decode cX5_readTest 127 = .ok (.if_icmp .eq 9, 3) := dk_get dk_d01_170 19 rfl
theorem dX5_readTest_130 : decode cX5_readTest 130 = .ok (.aload_n 0, 1) := dk_get dk_d01_170 20 rfl
theorem dX5_readTest_131 : decode cX5_readTest 131 = .ok (.iconst 1, 1) := dk_get dk_d01_170 21 rfl
theorem dX5_readTest_132 : decode cX5_readTest 132 = .ok (.invokevirtual 104, 3) := dk_get dk_d01_170 22 rfl
theorem dX5_readTest_135 : decode cX5_readTest 135 = .ok (.ireturn, 1) := dk_get dk_d01_170 23 rfl
theorem dX5_readTest_136 : decode cX5_readTest 136 = .ok (.bipush 8, 2) := dk_get dk_d01_170 24 rfl
theorem dk_d01_171 : dkc cX5_readTest [(138, .aload_n 0, 1), (139, .getfield 28, 3), (142, .iadd, 1), (143, .bipush 61, 2), (145, .isub, 1), (146, .istore_n 3, 1), (147, .aload_n 0, 1), (148, .invokevirtual 55, 3), (151, .aload_n 0, 1), (152, .invokevirtual 121, 3), (155, .ifCond .ne 5, 3), (158, .iconst 0, 1), (159, .ireturn, 1), (160, .aload_n 0, 1), (161, .iload_n 3, 1), (162, .iconst 0, 1), (163, .invokevirtual 130, 3), (166, .iconst 1, 1), (167, .ireturn, 1)] = true := by decide +kernel
theorem dX5_readTest_138 : decode cX5_readTest 138 = .ok (.aload_n 0, 1) := dk_get dk_d01_171 0 rfl
theorem dX5_readTest_139 : decode cX5_readTest 139 = .ok (.getfield 28, 3) := dk_get dk_d01_171 1 rfl
theorem dX5_readTest_142 : decode cX5_readTest 142 = .ok (.iadd, 1) := dk_get dk_d01_171 2 rfl
theorem dX5_readTest_143 : decode cX5_readTest 143 = .ok (.bipush 61, 2) := dk_get dk_d01_171 3 rfl
theorem dX5_readTest_145 : decode cX5_readTest 145 = .ok (.isub, 1) := dk_get dk_d01_171 4 rfl
theorem dX5_readTest_146 : decode cX5_readTest 146 = .ok (.istore_n 3, 1) := dk_get dk_d01_171 5 rfl
theorem dX5_readTest_147 : decode cX5_readTest 147 = .ok (.aload_n 0, 1) := dk_get dk_d01_171 6 rfl
theorem dX5_readTest_148 : decode cX5_readTest 148 = .ok (.invokevirtual 55, 3) := dk_get dk_d01_171 7 rfl
theorem dX5_readTest_151 : decode cX5_readTest 151 = .ok (.aload_n 0, 1) := dk_get dk_d01_171 8 rfl
theorem dX5_readTest_152 : decode cX5_readTest 152 = .ok (.invokevirtual 121, 3) := dk_get dk_d01_171 9 rfl
theorem dX5_readTest_155 : decode cX5_readTest 155 = .ok (.ifCond .ne 5, 3) := dk_get dk_d01_171 10 rfl
theorem dX5_readTest_158 : decode cX5_readTest 158 = .ok (.iconst 0, 1) := dk_get dk_d01_171 11 rfl
theorem dX5_readTest_159 : decode cX5_readTest 159 = .ok (.ireturn, 1) := dk_get dk_d01_171 12 rfl
theorem dX5_readTest_160 : decode cX5_readTest 160 = .ok (.aload_n 0, 1) := dk_get dk_d01_171 13 rfl
theorem dX5_readTest_161 : decode cX5_readTest 161 = .ok (.iload_n 3, 1) := dk_get dk_d01_171 14 rfl
theorem dX5_readTest_162 : decode cX5_readTest 162 = .ok (.iconst 0, 1) := dk_get dk_d01_171 15 rfl
theorem dX5_readTest_163 : decode cX5_readTest 163 = .ok (.invokevirtual 130, 3) := dk_get dk_d01_171 16 rfl
theorem dX5_readTest_166 : decode cX5_readTest 166 = .ok (.iconst 1, 1) := dk_get dk_d01_171 17 rfl
theorem dX5_readTest_167 : decode cX5_readTest 167 = .ok (.ireturn, 1) := dk_get dk_d01_171 18 rfl
theorem dk_d01_172 : dkc cX5_readSum [(0, .iconst 0, 1), (1, .istore_n 1, 1), (2, .iconst 0, 1), (3, .istore_n 2, 1), (4, .iconst 0, 1), (5, .istore_n 3, 1), (6, .iload_n 3, 1), (7, .sipush 400, 3), (10, .if_icmp .ge 89, 3), (13, .aload_n 0, 1), (14, .iload_n 2, 1), (15, .invokevirtual 133, 3), (18, .ifCond .ne 5, 3), (21, .iconst 0, 1), (22, .ireturn, 1), (23, .aload_n 0, 1), (24, .invokevirtual 55, 3), (27, .aload_n 0, 1), (28, .getfield 28, 3), (31, .istore_n 2, 1), (32, .iload_n 2, 1), (33, .bipush 42, 2), (35, .if_icmp .eq 54, 3), (38, .iload_n 2, 1), (39, .bipush 47, 2)] = true := by decide +kernel
theorem dX5_readSum_0 : decode cX5_readSum 0 = .ok (.iconst 0, 1) := dk_get dk_d01_172 0 rfl
theorem dX5_readSum_1 : decode cX5_readSum 1 = .ok (.istore_n 1, 1) := dk_get dk_d01_172 1 rfl
theorem dX5_readSum_2 : decode cX5_readSum 2 = .ok (.iconst 0, 1) := dk_get dk_d01_172 2 rfl
theorem dX5_readSum_3 : decode cX5_readSum 3 = .ok (.istore_n 2, 1) := dk_get dk_d01_172 3 rfl
theorem dX5_readSum_4 : decode cX5_readSum 4 = .ok (.iconst 0, 1) := dk_get dk_d01_172 4 rfl
theorem dX5_readSum_5 : decode cX5_readSum 5 = .ok (.istore_n 3, 1) := dk_get dk_d01_172 5 rfl
theorem dX5_readSum_6 : decode cX5_readSum 6 = .ok (.iload_n 3, 1) := dk_get dk_d01_172 6 rfl
theorem dX5_readSum_7 : decode cX5_readSum 7 = .ok (.sipush 400, 3) := dk_get dk_d01_172 7 rfl
theorem dX5_readSum_10 : decode cX5_readSum 10 = .ok (.if_icmp .ge 89, 3) := dk_get dk_d01_172 8 rfl
theorem dX5_readSum_13 : decode cX5_readSum 13 = .ok (.aload_n 0, 1) := dk_get dk_d01_172 9 rfl
theorem dX5_readSum_14 : decode cX5_readSum 14 = .ok (.iload_n 2, 1) := dk_get dk_d01_172 10 rfl
theorem dX5_readSum_15 : decode cX5_readSum 15 = .ok (.invokevirtual 133, 3) := dk_get dk_d01_172 11 rfl
theorem dX5_readSum_18 : decode cX5_readSum 18 = .ok (.ifCond .ne 5, 3) := dk_get dk_d01_172 12 rfl
theorem dX5_readSum_21 : decode cX5_readSum 21 = .ok (.iconst 0, 1) := dk_get dk_d01_172 13 rfl
theorem dX5_readSum_22 : decode cX5_readSum 22 = .ok (.ireturn, 1) := dk_get dk_d01_172 14 rfl
theorem dX5_readSum_23 : decode cX5_readSum 23 = .ok (.aload_n 0, 1) := dk_get dk_d01_172 15 rfl
theorem dX5_readSum_24 : decode cX5_readSum 24 = .ok (.invokevirtual 55, 3) := dk_get dk_d01_172 16 rfl
theorem dX5_readSum_27 : decode cX5_readSum 27 = .ok (.aload_n 0, 1) := dk_get dk_d01_172 17 rfl
theorem dX5_readSum_28 : decode cX5_readSum 28 = .ok (.getfield 28, 3) := dk_get dk_d01_172 18 rfl
theorem dX5_readSum_31 : decode cX5_readSum 31 = .ok (.istore_n 2, 1) := dk_get dk_d01_172 19 rfl
theorem dX5_readSum_32 : decode cX5_readSum 32 = .ok (.iload_n 2, 1) := dk_get dk_d01_172 20 rfl
theorem dX5_readSum_33 : decode cX5_readSum 33 = .ok (.bipush 42, 2) := dk_get dk_d01_172 21 rfl
theorem dX5_readSum_35 : decode cX5_readSum 35 = .ok (.if_icmp .eq 54, 3) := dk_get dk_d01_172 22 rfl
theorem dX5_readSum_38 : decode cX5_readSum 38 = .ok (.iload_n 2, 1) := dk_get dk_d01_172 23 rfl
theorem dX5_readSum_39 : decode cX5_readSum 39 = .ok (.bipush 47, 2) := dk_get dk_d01_172 24 rfl
theorem dk_d01_173 : dkc cX5_readSum [(41, .if_icmp .eq 48, 3), (44, .iload_n 1, 1), (45, .ifCond .eq 9, 3), (48, .aload_n 0, 1), (49, .iload_n 1, 1), (50, .iconst 0, 1), (51, .invokevirtual 130, 3), (54, .aload_n 0, 1), (55, .getfield 28, 3), (58, .bipush 43, 2), (60, .if_icmp .eq 14, 3), (63, .aload_n 0, 1), (64, .getfield 28, 3), (67, .bipush 45, 2), (69, .if_icmp .eq 5, 3), (72, .iconst 1, 1), (73, .ireturn, 1), (74, .aload_n 0, 1), (75, .getfield 28, 3), (78, .bipush 43, 2), (80, .if_icmp .ne 7, 3), (83, .iconst 4, 1), (84, .goto 4, 3), (87, .iconst 5, 1), (88, .istore_n 1, 1)] = true := by decide +kernel
theorem dX5_readSum_41 : decode cX5_readSum 41 = .ok (.if_icmp .eq 48, 3) := dk_get dk_d01_173 0 rfl
theorem dX5_readSum_44 : decode cX5_readSum 44 = .ok (.iload_n 1, 1) := dk_get dk_d01_173 1 rfl
theorem dX5_readSum_45 : decode cX5_readSum 45 = .ok (.ifCond .eq 9, 3) := dk_get dk_d01_173 2 rfl
theorem dX5_readSum_48 : decode cX5_readSum 48 = .ok (.aload_n 0, 1) := dk_get dk_d01_173 3 rfl
theorem dX5_readSum_49 : decode cX5_readSum 49 = .ok (.iload_n 1, 1) := dk_get dk_d01_173 4 rfl
theorem dX5_readSum_50 : decode cX5_readSum 50 = .ok (.iconst 0, 1) := dk_get dk_d01_173 5 rfl
theorem dX5_readSum_51 : decode cX5_readSum 51 = .ok (.invokevirtual 130, 3) := dk_get dk_d01_173 6 rfl
theorem dX5_readSum_54 : decode cX5_readSum 54 = .ok (.aload_n 0, 1) := dk_get dk_d01_173 7 rfl
theorem dX5_readSum_55 : decode cX5_readSum 55 = .ok (.getfield 28, 3) := dk_get dk_d01_173 8 rfl
theorem dX5_readSum_58 : decode cX5_readSum 58 = .ok (.bipush 43, 2) := dk_get dk_d01_173 9 rfl
theorem dX5_readSum_60 : decode cX5_readSum 60 = .ok (.if_icmp .eq 14, 3) := dk_get dk_d01_173 10 rfl
theorem dX5_readSum_63 : decode cX5_readSum 63 = .ok (.aload_n 0, 1) := dk_get dk_d01_173 11 rfl
theorem dX5_readSum_64 : decode cX5_readSum 64 = .ok (.getfield 28, 3) := dk_get dk_d01_173 12 rfl
theorem dX5_readSum_67 : decode cX5_readSum 67 = .ok (.bipush 45, 2) := dk_get dk_d01_173 13 rfl
theorem dX5_readSum_69 : decode cX5_readSum 69 = .ok (.if_icmp .eq 5, 3) := dk_get dk_d01_173 14 rfl
theorem dX5_readSum_72 : decode cX5_readSum 72 = .ok (.iconst 1, 1) := dk_get dk_d01_173 15 rfl
theorem dX5_readSum_73 : decode cX5_readSum 73 = .ok (.ireturn, 1) := dk_get dk_d01_173 16 rfl
theorem dX5_readSum_74 : decode cX5_readSum 74 = .ok (.aload_n 0, 1) := dk_get dk_d01_173 17 rfl
theorem dX5_readSum_75 : decode cX5_readSum 75 = .ok (.getfield 28, 3) := dk_get dk_d01_173 18 rfl
theorem dX5_readSum_78 : decode cX5_readSum 78 = .ok (.bipush 43, 2) := dk_get dk_d01_173 19 rfl
theorem dX5_readSum_80 : decode cX5_readSum 80 = .ok (.if_icmp .ne 7, 3) := dk_get dk_d01_173 20 rfl
theorem dX5_readSum_83 : decode cX5_readSum 83 = .ok (.iconst 4, 1) := dk_get dk_d01_173 21 rfl
theorem dX5_readSum_84 : decode cX5_readSum 84 = .ok (.goto 4, 3) := dk_get dk_d01_173 22 rfl
theorem dX5_readSum_87 : decode cX5_readSum 87 = .ok (.iconst 5, 1) := dk_get dk_d01_173 23 rfl
theorem dX5_readSum_88 : decode cX5_readSum 88 = .ok (.istore_n 1, 1) := dk_get dk_d01_173 24 rfl
theorem dk_d01_174 : dkc cX5_readSum [(89, .aload_n 0, 1), (90, .invokevirtual 55, 3), (93, .iinc 3 1, 3), (96, .goto (-90), 3), (99, .aload_n 0, 1), (100, .iconst 1, 1), (101, .invokevirtual 104, 3), (104, .ireturn, 1)] = true := by decide +kernel
theorem dX5_readSum_89 : decode cX5_readSum 89 = .ok (.aload_n 0, 1) := dk_get dk_d01_174 0 rfl
theorem dX5_readSum_90 : decode cX5_readSum 90 = .ok (.invokevirtual 55, 3) := dk_get dk_d01_174 1 rfl
theorem dX5_readSum_93 : decode cX5_readSum 93 = .ok (.iinc 3 1, 3) := dk_get dk_d01_174 2 rfl
theorem dX5_readSum_96 : decode cX5_readSum 96 = .ok (.goto (-90), 3) := dk_get dk_d01_174 3 rfl
theorem dX5_readSum_99 : decode cX5_readSum 99 = .ok (.aload_n 0, 1) := dk_get dk_d01_174 4 rfl
theorem dX5_readSum_100 : decode cX5_readSum 100 = .ok (.iconst 1, 1) := dk_get dk_d01_174 5 rfl
theorem dX5_readSum_101 : decode cX5_readSum 101 = .ok (.invokevirtual 104, 3) := dk_get dk_d01_174 6 rfl
theorem dX5_readSum_104 : decode cX5_readSum 104 = .ok (.ireturn, 1) := dk_get dk_d01_174 7 rfl
theorem dk_d01_175 : dkc cX5_emitUnit [(0, .iload_n 1, 1), (1, .bipush 47, 2), (3, .if_icmp .ne 7, 3), (6, .iconst 1, 1), (7, .goto 4, 3), (10, .iconst 0, 1), (11, .istore_n 2, 1), (12, .aload_n 0, 1), (13, .getfield 28, 3), (16, .iconst 1, 1), (17, .if_icmp .ne 40, 3), (20, .iload_n 2, 1), (21, .ifCond .eq 16, 3), (24, .aload_n 0, 1), (25, .getfield 31, 3), (28, .ifCond .ne 9, 3), (31, .aload_n 0, 1), (32, .iconst 2, 1), (33, .invokevirtual 104, 3), (36, .ireturn, 1), (37, .aload_n 0, 1), (38, .iload_n 2, 1), (39, .ifCond .eq 7, 3), (42, .iconst 2, 1), (43, .goto 4, 3)] = true := by decide +kernel
theorem dX5_emitUnit_0 : decode cX5_emitUnit 0 = .ok (.iload_n 1, 1) := dk_get dk_d01_175 0 rfl
theorem dX5_emitUnit_1 : decode cX5_emitUnit 1 = .ok (.bipush 47, 2) := dk_get dk_d01_175 1 rfl
theorem dX5_emitUnit_3 : decode cX5_emitUnit 3 = .ok (.if_icmp .ne 7, 3) := dk_get dk_d01_175 2 rfl
theorem dX5_emitUnit_6 : decode cX5_emitUnit 6 = .ok (.iconst 1, 1) := dk_get dk_d01_175 3 rfl
theorem dX5_emitUnit_7 : decode cX5_emitUnit 7 = .ok (.goto 4, 3) := dk_get dk_d01_175 4 rfl
theorem dX5_emitUnit_10 : decode cX5_emitUnit 10 = .ok (.iconst 0, 1) := dk_get dk_d01_175 5 rfl
theorem dX5_emitUnit_11 : decode cX5_emitUnit 11 = .ok (.istore_n 2, 1) := dk_get dk_d01_175 6 rfl
theorem dX5_emitUnit_12 : decode cX5_emitUnit 12 = .ok (.aload_n 0, 1) := dk_get dk_d01_175 7 rfl
theorem dX5_emitUnit_13 : decode cX5_emitUnit 13 = .ok (.getfield 28, 3) := dk_get dk_d01_175 8 rfl
theorem dX5_emitUnit_16 : decode cX5_emitUnit 16 = .ok (.iconst 1, 1) := dk_get dk_d01_175 9 rfl
theorem dX5_emitUnit_17 : decode cX5_emitUnit 17 = .ok (.if_icmp .ne 40, 3) := dk_get dk_d01_175 10 rfl
theorem dX5_emitUnit_20 : decode cX5_emitUnit 20 = .ok (.iload_n 2, 1) := dk_get dk_d01_175 11 rfl
theorem dX5_emitUnit_21 : decode cX5_emitUnit 21 = .ok (.ifCond .eq 16, 3) := dk_get dk_d01_175 12 rfl
theorem dX5_emitUnit_24 : decode cX5_emitUnit 24 = .ok (.aload_n 0, 1) := dk_get dk_d01_175 13 rfl
theorem dX5_emitUnit_25 : decode cX5_emitUnit 25 = .ok (.getfield 31, 3) := dk_get dk_d01_175 14 rfl
theorem dX5_emitUnit_28 : decode cX5_emitUnit 28 = .ok (.ifCond .ne 9, 3) := dk_get dk_d01_175 15 rfl
theorem dX5_emitUnit_31 : decode cX5_emitUnit 31 = .ok (.aload_n 0, 1) := dk_get dk_d01_175 16 rfl
theorem dX5_emitUnit_32 : decode cX5_emitUnit 32 = .ok (.iconst 2, 1) := dk_get dk_d01_175 17 rfl
theorem dX5_emitUnit_33 : decode cX5_emitUnit 33 = .ok (.invokevirtual 104, 3) := dk_get dk_d01_175 18 rfl
theorem dX5_emitUnit_36 : decode cX5_emitUnit 36 = .ok (.ireturn, 1) := dk_get dk_d01_175 19 rfl
theorem dX5_emitUnit_37 : decode cX5_emitUnit 37 = .ok (.aload_n 0, 1) := dk_get dk_d01_175 20 rfl
theorem dX5_emitUnit_38 : decode cX5_emitUnit 38 = .ok (.iload_n 2, 1) := dk_get dk_d01_175 21 rfl
theorem dX5_emitUnit_39 : decode cX5_emitUnit 39 = .ok (.ifCond .eq 7, 3) := dk_get dk_d01_175 22 rfl
theorem dX5_emitUnit_42 : decode cX5_emitUnit 42 = .ok (.iconst 2, 1) := dk_get dk_d01_175 23 rfl
theorem dX5_emitUnit_43 : decode cX5_emitUnit 43 = .ok (.goto 4, 3) := dk_get dk_d01_175 24 rfl
theorem dk_d01_176 : dkc cX5_emitUnit [(46, .iconst 0, 1), (47, .aload_n 0, 1), (48, .getfield 31, 3), (51, .invokevirtual 130, 3), (54, .goto 49, 3), (57, .iload_n 2, 1), (58, .ifCond .ne 39, 3), (61, .aload_n 0, 1), (62, .getfield 28, 3), (65, .sipush 303, 3), (68, .if_icmp .lt 29, 3), (71, .aload_n 0, 1), (72, .getfield 28, 3), (75, .sipush 312, 3), (78, .if_icmp .gt 19, 3), (81, .aload_n 0, 1), (82, .iconst 1, 1), (83, .aload_n 0, 1), (84, .getfield 28, 3), (87, .sipush 303, 3), (90, .isub, 1), (91, .invokevirtual 130, 3), (94, .goto 9, 3), (97, .aload_n 0, 1), (98, .iconst 1, 1)] = true := by decide +kernel
theorem dX5_emitUnit_46 : decode cX5_emitUnit 46 = .ok (.iconst 0, 1) := dk_get dk_d01_176 0 rfl
theorem dX5_emitUnit_47 : decode cX5_emitUnit 47 = .ok (.aload_n 0, 1) := dk_get dk_d01_176 1 rfl
theorem dX5_emitUnit_48 : decode cX5_emitUnit 48 = .ok (.getfield 31, 3) := dk_get dk_d01_176 2 rfl
theorem dX5_emitUnit_51 : decode cX5_emitUnit 51 = .ok (.invokevirtual 130, 3) := dk_get dk_d01_176 3 rfl
theorem dX5_emitUnit_54 : decode cX5_emitUnit 54 = .ok (.goto 49, 3) := dk_get dk_d01_176 4 rfl
theorem dX5_emitUnit_57 : decode cX5_emitUnit 57 = .ok (.iload_n 2, 1) := dk_get dk_d01_176 5 rfl
theorem dX5_emitUnit_58 : decode cX5_emitUnit 58 = .ok (.ifCond .ne 39, 3) := dk_get dk_d01_176 6 rfl
theorem dX5_emitUnit_61 : decode cX5_emitUnit 61 = .ok (.aload_n 0, 1) := dk_get dk_d01_176 7 rfl
theorem dX5_emitUnit_62 : decode cX5_emitUnit 62 = .ok (.getfield 28, 3) := dk_get dk_d01_176 8 rfl
theorem dX5_emitUnit_65 : decode cX5_emitUnit 65 = .ok (.sipush 303, 3) := dk_get dk_d01_176 9 rfl
theorem dX5_emitUnit_68 : decode cX5_emitUnit 68 = .ok (.if_icmp .lt 29, 3) := dk_get dk_d01_176 10 rfl
theorem dX5_emitUnit_71 : decode cX5_emitUnit 71 = .ok (.aload_n 0, 1) := dk_get dk_d01_176 11 rfl
theorem dX5_emitUnit_72 : decode cX5_emitUnit 72 = .ok (.getfield 28, 3) := dk_get dk_d01_176 12 rfl
theorem dX5_emitUnit_75 : decode cX5_emitUnit 75 = .ok (.sipush 312, 3) := dk_get dk_d01_176 13 rfl
theorem dX5_emitUnit_78 : decode cX5_emitUnit 78 = .ok (.if_icmp .gt 19, 3) := dk_get dk_d01_176 14 rfl
theorem dX5_emitUnit_81 : decode cX5_emitUnit 81 = .ok (.aload_n 0, 1) := dk_get dk_d01_176 15 rfl
theorem dX5_emitUnit_82 : decode cX5_emitUnit 82 = .ok (.iconst 1, 1) := dk_get dk_d01_176 16 rfl
theorem dX5_emitUnit_83 : decode cX5_emitUnit 83 = .ok (.aload_n 0, 1) := dk_get dk_d01_176 17 rfl
theorem dX5_emitUnit_84 : decode cX5_emitUnit 84 = .ok (.getfield 28, 3) := dk_get dk_d01_176 18 rfl
theorem dX5_emitUnit_87 : decode cX5_emitUnit 87 = .ok (.sipush 303, 3) := dk_get dk_d01_176 19 rfl
theorem dX5_emitUnit_90 : decode cX5_emitUnit 90 = .ok (.isub, 1) := dk_get dk_d01_176 20 rfl
theorem dX5_emitUnit_91 : decode cX5_emitUnit 91 = .ok (.invokevirtual 130, 3) := dk_get dk_d01_176 21 rfl
theorem dX5_emitUnit_94 : decode cX5_emitUnit 94 = .ok (.goto 9, 3) := dk_get dk_d01_176 22 rfl
theorem dX5_emitUnit_97 : decode cX5_emitUnit 97 = .ok (.aload_n 0, 1) := dk_get dk_d01_176 23 rfl
theorem dX5_emitUnit_98 : decode cX5_emitUnit 98 = .ok (.iconst 1, 1) := dk_get dk_d01_176 24 rfl
theorem dk_d01_177 : dkc cX5_emitUnit [(99, .invokevirtual 104, 3), (102, .ireturn, 1), (103, .iload_n 1, 1), (104, .bipush 42, 2), (106, .if_icmp .ne 10, 3), (109, .aload_n 0, 1), (110, .bipush 6, 2), (112, .iconst 0, 1), (113, .invokevirtual 130, 3), (116, .iconst 1, 1), (117, .ireturn, 1)] = true := by decide +kernel
theorem dX5_emitUnit_99 : decode cX5_emitUnit 99 = .ok (.invokevirtual 104, 3) := dk_get dk_d01_177 0 rfl
theorem dX5_emitUnit_102 : decode cX5_emitUnit 102 = .ok (.ireturn, 1) := dk_get dk_d01_177 1 rfl
theorem dX5_emitUnit_103 : decode cX5_emitUnit 103 = .ok (.iload_n 1, 1) := dk_get dk_d01_177 2 rfl
theorem dX5_emitUnit_104 : decode cX5_emitUnit 104 = .ok (.bipush 42, 2) := dk_get dk_d01_177 3 rfl
theorem dX5_emitUnit_106 : decode cX5_emitUnit 106 = .ok (.if_icmp .ne 10, 3) := dk_get dk_d01_177 4 rfl
theorem dX5_emitUnit_109 : decode cX5_emitUnit 109 = .ok (.aload_n 0, 1) := dk_get dk_d01_177 5 rfl
theorem dX5_emitUnit_110 : decode cX5_emitUnit 110 = .ok (.bipush 6, 2) := dk_get dk_d01_177 6 rfl
theorem dX5_emitUnit_112 : decode cX5_emitUnit 112 = .ok (.iconst 0, 1) := dk_get dk_d01_177 7 rfl
theorem dX5_emitUnit_113 : decode cX5_emitUnit 113 = .ok (.invokevirtual 130, 3) := dk_get dk_d01_177 8 rfl
theorem dX5_emitUnit_116 : decode cX5_emitUnit 116 = .ok (.iconst 1, 1) := dk_get dk_d01_177 9 rfl
theorem dX5_emitUnit_117 : decode cX5_emitUnit 117 = .ok (.ireturn, 1) := dk_get dk_d01_177 10 rfl
theorem dk_d01_178 : dkc cX6_init [(0, .aload_n 0, 1), (1, .invokespecial 3, 3), (4, .aload_n 0, 1), (5, .sipush 144, 3), (8, .newarray .int, 2), (10, .putfield 9, 3), (13, .aload_n 0, 1), (14, .sipush 144, 3), (17, .newarray .int, 2), (19, .putfield 15, 3), (22, .aload_n 0, 1), (23, .iconst 0, 1), (24, .putfield 18, 3), (27, .aload_n 0, 1), (28, .iconst 0, 1), (29, .putfield 22, 3), (32, .return_, 1)] = true := by decide +kernel
theorem dX6_init_0 : decode cX6_init 0 = .ok (.aload_n 0, 1) := dk_get dk_d01_178 0 rfl
theorem dX6_init_1 : decode cX6_init 1 = .ok (.invokespecial 3, 3) := dk_get dk_d01_178 1 rfl
theorem dX6_init_4 : decode cX6_init 4 = .ok (.aload_n 0, 1) := dk_get dk_d01_178 2 rfl
theorem dX6_init_5 : decode cX6_init 5 = .ok (.sipush 144, 3) := dk_get dk_d01_178 3 rfl
theorem dX6_init_8 : decode cX6_init 8 = .ok (.newarray .int, 2) := dk_get dk_d01_178 4 rfl
theorem dX6_init_10 : decode cX6_init 10 = .ok (.putfield 9, 3) := dk_get dk_d01_178 5 rfl
theorem dX6_init_13 : decode cX6_init 13 = .ok (.aload_n 0, 1) := dk_get dk_d01_178 6 rfl
theorem dX6_init_14 : decode cX6_init 14 = .ok (.sipush 144, 3) := dk_get dk_d01_178 7 rfl
theorem dX6_init_17 : decode cX6_init 17 = .ok (.newarray .int, 2) := dk_get dk_d01_178 8 rfl
theorem dX6_init_19 : decode cX6_init 19 = .ok (.putfield 15, 3) := dk_get dk_d01_178 9 rfl
theorem dX6_init_22 : decode cX6_init 22 = .ok (.aload_n 0, 1) := dk_get dk_d01_178 10 rfl
theorem dX6_init_23 : decode cX6_init 23 = .ok (.iconst 0, 1) := dk_get dk_d01_178 11 rfl
theorem dX6_init_24 : decode cX6_init 24 = .ok (.putfield 18, 3) := dk_get dk_d01_178 12 rfl
theorem dX6_init_27 : decode cX6_init 27 = .ok (.aload_n 0, 1) := dk_get dk_d01_178 13 rfl
theorem dX6_init_28 : decode cX6_init 28 = .ok (.iconst 0, 1) := dk_get dk_d01_178 14 rfl
theorem dX6_init_29 : decode cX6_init 29 = .ok (.putfield 22, 3) := dk_get dk_d01_178 15 rfl
theorem dX6_init_32 : decode cX6_init 32 = .ok (.return_, 1) := dk_get dk_d01_178 16 rfl
theorem dk_d01_179 : dkc cX6_blobs [(0, .aload_n 0, 1), (1, .aload_n 1, 1), (2, .iconst 1, 1), (3, .iconst 0, 1), (4, .invokevirtual 26, 3), (7, .ireturn, 1)] = true := by decide +kernel
theorem dX6_blobs_0 : decode cX6_blobs 0 = .ok (.aload_n 0, 1) := dk_get dk_d01_179 0 rfl
theorem dX6_blobs_1 : decode cX6_blobs 1 = .ok (.aload_n 1, 1) := dk_get dk_d01_179 1 rfl
theorem dX6_blobs_2 : decode cX6_blobs 2 = .ok (.iconst 1, 1) := dk_get dk_d01_179 2 rfl
theorem dX6_blobs_3 : decode cX6_blobs 3 = .ok (.iconst 0, 1) := dk_get dk_d01_179 3 rfl
theorem dX6_blobs_4 : decode cX6_blobs 4 = .ok (.invokevirtual 26, 3) := dk_get dk_d01_179 4 rfl
theorem dX6_blobs_7 : decode cX6_blobs 7 = .ok (.ireturn, 1) := dk_get dk_d01_179 5 rfl
theorem dk_d01_180 : dkc cX6_greatestBlob [(0, .aload_n 0, 1), (1, .aload_n 1, 1), (2, .iconst 1, 1), (3, .iconst 1, 1), (4, .invokevirtual 26, 3), (7, .ireturn, 1)] = true := by decide +kernel
theorem dX6_greatestBlob_0 : decode cX6_greatestBlob 0 = .ok (.aload_n 0, 1) := dk_get dk_d01_180 0 rfl
theorem dX6_greatestBlob_1 : decode cX6_greatestBlob 1 = .ok (.aload_n 1, 1) := dk_get dk_d01_180 1 rfl
theorem dX6_greatestBlob_2 : decode cX6_greatestBlob 2 = .ok (.iconst 1, 1) := dk_get dk_d01_180 2 rfl
theorem dX6_greatestBlob_3 : decode cX6_greatestBlob 3 = .ok (.iconst 1, 1) := dk_get dk_d01_180 3 rfl
theorem dX6_greatestBlob_4 : decode cX6_greatestBlob 4 = .ok (.invokevirtual 26, 3) := dk_get dk_d01_180 4 rfl
theorem dX6_greatestBlob_7 : decode cX6_greatestBlob 7 = .ok (.ireturn, 1) := dk_get dk_d01_180 5 rfl
theorem dk_d01_181 : dkc cX6_holes [(0, .aload_n 0, 1), (1, .aload_n 1, 1), (2, .iconst 0, 1), (3, .iconst 2, 1), (4, .invokevirtual 26, 3), (7, .ireturn, 1)] = true := by decide +kernel
theorem dX6_holes_0 : decode cX6_holes 0 = .ok (.aload_n 0, 1) := dk_get dk_d01_181 0 rfl
theorem dX6_holes_1 : decode cX6_holes 1 = .ok (.aload_n 1, 1) := dk_get dk_d01_181 1 rfl
theorem dX6_holes_2 : decode cX6_holes 2 = .ok (.iconst 0, 1) := dk_get dk_d01_181 2 rfl
theorem dX6_holes_3 : decode cX6_holes 3 = .ok (.iconst 2, 1) := dk_get dk_d01_181 3 rfl
theorem dX6_holes_4 : decode cX6_holes 4 = .ok (.invokevirtual 26, 3) := dk_get dk_d01_181 4 rfl
theorem dX6_holes_7 : decode cX6_holes 7 = .ok (.ireturn, 1) := dk_get dk_d01_181 5 rfl
theorem dk_d01_182 : dkc cX6_pieces [(0, .iconst 0, 1), (1, .istore 4, 2), (3, .iconst 0, 1), (4, .istore 5, 2), (6, .iconst 0, 1), (7, .istore 6, 2), (9, .iconst 0, 1), (10, .istore 7, 2), (12, .iload 7, 2), (14, .sipush 144, 3), (17, .if_icmp .ge 31, 3), (20, .aload_n 0, 1), (21, .getfield 9, 3), (24, .iload 7, 2), (26, .aload_n 1, 1), (27, .iload 7, 2), (29, .invokevirtual 30, 3), (32, .iload_n 2, 1), (33, .if_icmp .ne 7, 3), (36, .iconst 0, 1), (37, .goto 4, 3), (40, .iconst 1, 1), (41, .iastore, 1), (42, .iinc 7 1, 3), (45, .goto (-33), 3)] = true := by decide +kernel
theorem dX6_pieces_0 : decode cX6_pieces 0 = .ok (.iconst 0, 1) := dk_get dk_d01_182 0 rfl
theorem dX6_pieces_1 : decode cX6_pieces 1 = .ok (.istore 4, 2) := dk_get dk_d01_182 1 rfl
theorem dX6_pieces_3 : decode cX6_pieces 3 = .ok (.iconst 0, 1) := dk_get dk_d01_182 2 rfl
theorem dX6_pieces_4 : decode cX6_pieces 4 = .ok (.istore 5, 2) := dk_get dk_d01_182 3 rfl
theorem dX6_pieces_6 : decode cX6_pieces 6 = .ok (.iconst 0, 1) := dk_get dk_d01_182 4 rfl
theorem dX6_pieces_7 : decode cX6_pieces 7 = .ok (.istore 6, 2) := dk_get dk_d01_182 5 rfl
theorem dX6_pieces_9 : decode cX6_pieces 9 = .ok (.iconst 0, 1) := dk_get dk_d01_182 6 rfl
theorem dX6_pieces_10 : decode cX6_pieces 10 = .ok (.istore 7, 2) := dk_get dk_d01_182 7 rfl
theorem dX6_pieces_12 : decode cX6_pieces 12 = .ok (.iload 7, 2) := dk_get dk_d01_182 8 rfl
theorem dX6_pieces_14 : decode cX6_pieces 14 = .ok (.sipush 144, 3) := dk_get dk_d01_182 9 rfl
theorem dX6_pieces_17 : decode cX6_pieces 17 = .ok (.if_icmp .ge 31, 3) := dk_get dk_d01_182 10 rfl
theorem dX6_pieces_20 : decode cX6_pieces 20 = .ok (.aload_n 0, 1) := dk_get dk_d01_182 11 rfl
theorem dX6_pieces_21 : decode cX6_pieces 21 = .ok (.getfield 9, 3) := dk_get dk_d01_182 12 rfl
theorem dX6_pieces_24 : decode cX6_pieces 24 = .ok (.iload 7, 2) := dk_get dk_d01_182 13 rfl
theorem dX6_pieces_26 : decode cX6_pieces 26 = .ok (.aload_n 1, 1) := dk_get dk_d01_182 14 rfl
theorem dX6_pieces_27 : decode cX6_pieces 27 = .ok (.iload 7, 2) := dk_get dk_d01_182 15 rfl
theorem dX6_pieces_29 : decode cX6_pieces 29 = .ok (.invokevirtual 30, 3) := dk_get dk_d01_182 16 rfl
theorem dX6_pieces_32 : decode cX6_pieces 32 = .ok (.iload_n 2, 1) := dk_get dk_d01_182 17 rfl
theorem dX6_pieces_33 : decode cX6_pieces 33 = .ok (.if_icmp .ne 7, 3) := dk_get dk_d01_182 18 rfl
theorem dX6_pieces_36 : decode cX6_pieces 36 = .ok (.iconst 0, 1) := dk_get dk_d01_182 19 rfl
theorem dX6_pieces_37 : decode cX6_pieces 37 = .ok (.goto 4, 3) := dk_get dk_d01_182 20 rfl
theorem dX6_pieces_40 : decode cX6_pieces 40 = .ok (.iconst 1, 1) := dk_get dk_d01_182 21 rfl
theorem dX6_pieces_41 : decode cX6_pieces 41 = .ok (.iastore, 1) := dk_get dk_d01_182 22 rfl
theorem dX6_pieces_42 : decode cX6_pieces 42 = .ok (.iinc 7 1, 3) := dk_get dk_d01_182 23 rfl
theorem dX6_pieces_45 : decode cX6_pieces 45 = .ok (.goto (-33), 3) := dk_get dk_d01_182 24 rfl
theorem dk_d01_183 : dkc cX6_pieces [(48, .iconst 0, 1), (49, .istore 7, 2), (51, .iload 7, 2), (53, .sipush 144, 3), (56, .if_icmp .ge 56, 3), (59, .aload_n 0, 1), (60, .getfield 9, 3), (63, .iload 7, 2), (65, .iaload, 1), (66, .ifCond .ne 40, 3), (69, .aload_n 0, 1), (70, .iload 7, 2), (72, .invokevirtual 36, 3), (75, .iinc 4 1, 3), (78, .iload 5, 2), (80, .aload_n 0, 1), (81, .getfield 18, 3), (84, .invokestatic 40, 3), (87, .istore 5, 2), (89, .iload 6, 2), (91, .aload_n 0, 1), (92, .getfield 22, 3), (95, .ifCond .eq 7, 3), (98, .iconst 0, 1), (99, .goto 4, 3)] = true := by decide +kernel
theorem dX6_pieces_48 : decode cX6_pieces 48 = .ok (.iconst 0, 1) := dk_get dk_d01_183 0 rfl
theorem dX6_pieces_49 : decode cX6_pieces 49 = .ok (.istore 7, 2) := dk_get dk_d01_183 1 rfl
theorem dX6_pieces_51 : decode cX6_pieces 51 = .ok (.iload 7, 2) := dk_get dk_d01_183 2 rfl
theorem dX6_pieces_53 : decode cX6_pieces 53 = .ok (.sipush 144, 3) := dk_get dk_d01_183 3 rfl
theorem dX6_pieces_56 : decode cX6_pieces 56 = .ok (.if_icmp .ge 56, 3) := dk_get dk_d01_183 4 rfl
theorem dX6_pieces_59 : decode cX6_pieces 59 = .ok (.aload_n 0, 1) := dk_get dk_d01_183 5 rfl
theorem dX6_pieces_60 : decode cX6_pieces 60 = .ok (.getfield 9, 3) := dk_get dk_d01_183 6 rfl
theorem dX6_pieces_63 : decode cX6_pieces 63 = .ok (.iload 7, 2) := dk_get dk_d01_183 7 rfl
theorem dX6_pieces_65 : decode cX6_pieces 65 = .ok (.iaload, 1) := dk_get dk_d01_183 8 rfl
theorem dX6_pieces_66 : decode cX6_pieces 66 = .ok (.ifCond .ne 40, 3) := dk_get dk_d01_183 9 rfl
theorem dX6_pieces_69 : decode cX6_pieces 69 = .ok (.aload_n 0, 1) := dk_get dk_d01_183 10 rfl
theorem dX6_pieces_70 : decode cX6_pieces 70 = .ok (.iload 7, 2) := dk_get dk_d01_183 11 rfl
theorem dX6_pieces_72 : decode cX6_pieces 72 = .ok (.invokevirtual 36, 3) := dk_get dk_d01_183 12 rfl
theorem dX6_pieces_75 : decode cX6_pieces 75 = .ok (.iinc 4 1, 3) := dk_get dk_d01_183 13 rfl
theorem dX6_pieces_78 : decode cX6_pieces 78 = .ok (.iload 5, 2) := dk_get dk_d01_183 14 rfl
theorem dX6_pieces_80 : decode cX6_pieces 80 = .ok (.aload_n 0, 1) := dk_get dk_d01_183 15 rfl
theorem dX6_pieces_81 : decode cX6_pieces 81 = .ok (.getfield 18, 3) := dk_get dk_d01_183 16 rfl
theorem dX6_pieces_84 : decode cX6_pieces 84 = .ok (.invokestatic 40, 3) := dk_get dk_d01_183 17 rfl
theorem dX6_pieces_87 : decode cX6_pieces 87 = .ok (.istore 5, 2) := dk_get dk_d01_183 18 rfl
theorem dX6_pieces_89 : decode cX6_pieces 89 = .ok (.iload 6, 2) := dk_get dk_d01_183 19 rfl
theorem dX6_pieces_91 : decode cX6_pieces 91 = .ok (.aload_n 0, 1) := dk_get dk_d01_183 20 rfl
theorem dX6_pieces_92 : decode cX6_pieces 92 = .ok (.getfield 22, 3) := dk_get dk_d01_183 21 rfl
theorem dX6_pieces_95 : decode cX6_pieces 95 = .ok (.ifCond .eq 7, 3) := dk_get dk_d01_183 22 rfl
theorem dX6_pieces_98 : decode cX6_pieces 98 = .ok (.iconst 0, 1) := dk_get dk_d01_183 23 rfl
theorem dX6_pieces_99 : decode cX6_pieces 99 = .ok (.goto 4, 3) := dk_get dk_d01_183 24 rfl
theorem dk_d01_184 : dkc cX6_pieces [(102, .iconst 1, 1), (103, .iadd, 1), (104, .istore 6, 2), (106, .iinc 7 1, 3), (109, .goto (-58), 3), (112, .iload_n 3, 1), (113, .ifCond .ne 6, 3), (116, .iload 4, 2), (118, .ireturn, 1), (119, .iload_n 3, 1), (120, .iconst 1, 1), (121, .if_icmp .ne 8, 3), (124, .iload 5, 2), (126, .goto 5, 3), (129, .iload 6, 2), (131, .ireturn, 1)] = true := by decide +kernel
theorem dX6_pieces_102 : decode cX6_pieces 102 = .ok (.iconst 1, 1) := dk_get dk_d01_184 0 rfl
theorem dX6_pieces_103 : decode cX6_pieces 103 = .ok (.iadd, 1) := dk_get dk_d01_184 1 rfl
theorem dX6_pieces_104 : decode cX6_pieces 104 = .ok (.istore 6, 2) := dk_get dk_d01_184 2 rfl
theorem dX6_pieces_106 : decode cX6_pieces 106 = .ok (.iinc 7 1, 3) := dk_get dk_d01_184 3 rfl
theorem dX6_pieces_109 : decode cX6_pieces 109 = .ok (.goto (-58), 3) := dk_get dk_d01_184 4 rfl
theorem dX6_pieces_112 : decode cX6_pieces 112 = .ok (.iload_n 3, 1) := dk_get dk_d01_184 5 rfl
theorem dX6_pieces_113 : decode cX6_pieces 113 = .ok (.ifCond .ne 6, 3) := dk_get dk_d01_184 6 rfl
theorem dX6_pieces_116 : decode cX6_pieces 116 = .ok (.iload 4, 2) := dk_get dk_d01_184 7 rfl
theorem dX6_pieces_118 : decode cX6_pieces 118 = .ok (.ireturn, 1) := dk_get dk_d01_184 8 rfl
theorem dX6_pieces_119 : decode cX6_pieces 119 = .ok (.iload_n 3, 1) := dk_get dk_d01_184 9 rfl
theorem dX6_pieces_120 : decode cX6_pieces 120 = .ok (.iconst 1, 1) := dk_get dk_d01_184 10 rfl
theorem dX6_pieces_121 : decode cX6_pieces 121 = .ok (.if_icmp .ne 8, 3) := dk_get dk_d01_184 11 rfl
theorem dX6_pieces_124 : decode cX6_pieces 124 = .ok (.iload 5, 2) := dk_get dk_d01_184 12 rfl
theorem dX6_pieces_126 : decode cX6_pieces 126 = .ok (.goto 5, 3) := dk_get dk_d01_184 13 rfl
theorem dX6_pieces_129 : decode cX6_pieces 129 = .ok (.iload 6, 2) := dk_get dk_d01_184 14 rfl
theorem dX6_pieces_131 : decode cX6_pieces 131 = .ok (.ireturn, 1) := dk_get dk_d01_184 15 rfl
theorem dk_d01_185 : dkc cX6_spread [(0, .aload_n 0, 1), (1, .iconst 0, 1), (2, .putfield 18, 3), (5, .aload_n 0, 1), (6, .iconst 0, 1), (7, .putfield 22, 3), (10, .aload_n 0, 1), (11, .iload_n 1, 1), (12, .bipush 12, 2), (14, .idiv, 1), (15, .iload_n 1, 1), (16, .bipush 12, 2), (18, .irem, 1), (19, .invokevirtual 46, 3), (22, .iconst 0, 1), (23, .istore_n 2, 1), (24, .iload_n 2, 1), (25, .aload_n 0, 1), (26, .getfield 18, 3), (29, .if_icmp .ge 111, 3), (32, .iload_n 2, 1), (33, .sipush 144, 3), (36, .if_icmp .ge 104, 3), (39, .aload_n 0, 1), (40, .getfield 15, 3)] = true := by decide +kernel
theorem dX6_spread_0 : decode cX6_spread 0 = .ok (.aload_n 0, 1) := dk_get dk_d01_185 0 rfl
theorem dX6_spread_1 : decode cX6_spread 1 = .ok (.iconst 0, 1) := dk_get dk_d01_185 1 rfl
theorem dX6_spread_2 : decode cX6_spread 2 = .ok (.putfield 18, 3) := dk_get dk_d01_185 2 rfl
theorem dX6_spread_5 : decode cX6_spread 5 = .ok (.aload_n 0, 1) := dk_get dk_d01_185 3 rfl
theorem dX6_spread_6 : decode cX6_spread 6 = .ok (.iconst 0, 1) := dk_get dk_d01_185 4 rfl
theorem dX6_spread_7 : decode cX6_spread 7 = .ok (.putfield 22, 3) := dk_get dk_d01_185 5 rfl
theorem dX6_spread_10 : decode cX6_spread 10 = .ok (.aload_n 0, 1) := dk_get dk_d01_185 6 rfl
theorem dX6_spread_11 : decode cX6_spread 11 = .ok (.iload_n 1, 1) := dk_get dk_d01_185 7 rfl
theorem dX6_spread_12 : decode cX6_spread 12 = .ok (.bipush 12, 2) := dk_get dk_d01_185 8 rfl
theorem dX6_spread_14 : decode cX6_spread 14 = .ok (.idiv, 1) := dk_get dk_d01_185 9 rfl
theorem dX6_spread_15 : decode cX6_spread 15 = .ok (.iload_n 1, 1) := dk_get dk_d01_185 10 rfl
theorem dX6_spread_16 : decode cX6_spread 16 = .ok (.bipush 12, 2) := dk_get dk_d01_185 11 rfl
theorem dX6_spread_18 : decode cX6_spread 18 = .ok (.irem, 1) := dk_get dk_d01_185 12 rfl
theorem dX6_spread_19 : decode cX6_spread 19 = .ok (.invokevirtual 46, 3) := dk_get dk_d01_185 13 rfl
theorem dX6_spread_22 : decode cX6_spread 22 = .ok (.iconst 0, 1) := dk_get dk_d01_185 14 rfl
theorem dX6_spread_23 : decode cX6_spread 23 = .ok (.istore_n 2, 1) := dk_get dk_d01_185 15 rfl
theorem dX6_spread_24 : decode cX6_spread 24 = .ok (.iload_n 2, 1) := dk_get dk_d01_185 16 rfl
theorem dX6_spread_25 : decode cX6_spread 25 = .ok (.aload_n 0, 1) := dk_get dk_d01_185 17 rfl
theorem dX6_spread_26 : decode cX6_spread 26 = .ok (.getfield 18, 3) := dk_get dk_d01_185 18 rfl
theorem dX6_spread_29 : decode cX6_spread 29 = .ok (.if_icmp .ge 111, 3) := dk_get dk_d01_185 19 rfl
theorem dX6_spread_32 : decode cX6_spread 32 = .ok (.iload_n 2, 1) := dk_get dk_d01_185 20 rfl
theorem dX6_spread_33 : decode cX6_spread 33 = .ok (.sipush 144, 3) := dk_get dk_d01_185 21 rfl
theorem dX6_spread_36 : decode cX6_spread 36 = .ok (.if_icmp .ge 104, 3) := dk_get dk_d01_185 22 rfl
theorem dX6_spread_39 : decode cX6_spread 39 = .ok (.aload_n 0, 1) := dk_get dk_d01_185 23 rfl
theorem dX6_spread_40 : decode cX6_spread 40 = .ok (.getfield 15, 3) := dk_get dk_d01_185 24 rfl
theorem dk_d01_186 : dkc cX6_spread [(43, .iload_n 2, 1), (44, .iaload, 1), (45, .bipush 12, 2), (47, .idiv, 1), (48, .istore_n 3, 1), (49, .aload_n 0, 1), (50, .getfield 15, 3), (53, .iload_n 2, 1), (54, .iaload, 1), (55, .bipush 12, 2), (57, .irem, 1), (58, .istore 4, 2), (60, .aload_n 0, 1), (61, .aload_n 0, 1), (62, .getfield 22, 3), (65, .ifCond .ne 25, 3), (68, .iload_n 3, 1), (69, .ifCond .eq 21, 3), (72, .iload_n 3, 1), (73, .bipush 11, 2), (75, .if_icmp .eq 15, 3), (78, .iload 4, 2), (80, .ifCond .eq 10, 3), (83, .iload 4, 2), (85, .bipush 11, 2)] = true := by decide +kernel
theorem dX6_spread_43 : decode cX6_spread 43 = .ok (.iload_n 2, 1) := dk_get dk_d01_186 0 rfl
theorem dX6_spread_44 : decode cX6_spread 44 = .ok (.iaload, 1) := dk_get dk_d01_186 1 rfl
theorem dX6_spread_45 : decode cX6_spread 45 = .ok (.bipush 12, 2) := dk_get dk_d01_186 2 rfl
theorem dX6_spread_47 : decode cX6_spread 47 = .ok (.idiv, 1) := dk_get dk_d01_186 3 rfl
theorem dX6_spread_48 : decode cX6_spread 48 = .ok (.istore_n 3, 1) := dk_get dk_d01_186 4 rfl
theorem dX6_spread_49 : decode cX6_spread 49 = .ok (.aload_n 0, 1) := dk_get dk_d01_186 5 rfl
theorem dX6_spread_50 : decode cX6_spread 50 = .ok (.getfield 15, 3) := dk_get dk_d01_186 6 rfl
theorem dX6_spread_53 : decode cX6_spread 53 = .ok (.iload_n 2, 1) := dk_get dk_d01_186 7 rfl
theorem dX6_spread_54 : decode cX6_spread 54 = .ok (.iaload, 1) := dk_get dk_d01_186 8 rfl
theorem dX6_spread_55 : decode cX6_spread 55 = .ok (.bipush 12, 2) := dk_get dk_d01_186 9 rfl
theorem dX6_spread_57 : decode cX6_spread 57 = .ok (.irem, 1) := dk_get dk_d01_186 10 rfl
theorem dX6_spread_58 : decode cX6_spread 58 = .ok (.istore 4, 2) := dk_get dk_d01_186 11 rfl
theorem dX6_spread_60 : decode cX6_spread 60 = .ok (.aload_n 0, 1) := dk_get dk_d01_186 12 rfl
theorem dX6_spread_61 : decode cX6_spread 61 = .ok (.aload_n 0, 1) := dk_get dk_d01_186 13 rfl
theorem dX6_spread_62 : decode cX6_spread 62 = .ok (.getfield 22, 3) := dk_get dk_d01_186 14 rfl
theorem dX6_spread_65 : decode cX6_spread 65 = .ok (.ifCond .ne 25, 3) := dk_get dk_d01_186 15 rfl
theorem dX6_spread_68 : decode cX6_spread 68 = .ok (.iload_n 3, 1) := dk_get dk_d01_186 16 rfl
theorem dX6_spread_69 : decode cX6_spread 69 = .ok (.ifCond .eq 21, 3) := dk_get dk_d01_186 17 rfl
theorem dX6_spread_72 : decode cX6_spread 72 = .ok (.iload_n 3, 1) := dk_get dk_d01_186 18 rfl
theorem dX6_spread_73 : decode cX6_spread 73 = .ok (.bipush 11, 2) := dk_get dk_d01_186 19 rfl
theorem dX6_spread_75 : decode cX6_spread 75 = .ok (.if_icmp .eq 15, 3) := dk_get dk_d01_186 20 rfl
theorem dX6_spread_78 : decode cX6_spread 78 = .ok (.iload 4, 2) := dk_get dk_d01_186 21 rfl
theorem dX6_spread_80 : decode cX6_spread 80 = .ok (.ifCond .eq 10, 3) := dk_get dk_d01_186 22 rfl
theorem dX6_spread_83 : decode cX6_spread 83 = .ok (.iload 4, 2) := dk_get dk_d01_186 23 rfl
theorem dX6_spread_85 : decode cX6_spread 85 = .ok (.bipush 11, 2) := dk_get dk_d01_186 24 rfl
theorem dk_d01_187 : dkc cX6_spread [(87, .if_icmp .ne 7, 3), (90, .iconst 1, 1), (91, .goto 4, 3), (94, .iconst 0, 1), (95, .putfield 22, 3), (98, .aload_n 0, 1), (99, .iload_n 3, 1), (100, .iconst 1, 1), (101, .iadd, 1), (102, .iload 4, 2), (104, .invokevirtual 46, 3), (107, .aload_n 0, 1), (108, .iload_n 3, 1), (109, .iconst 1, 1), (110, .isub, 1), (111, .iload 4, 2), (113, .invokevirtual 46, 3), (116, .aload_n 0, 1), (117, .iload_n 3, 1), (118, .iload 4, 2), (120, .iconst 1, 1), (121, .iadd, 1), (122, .invokevirtual 46, 3), (125, .aload_n 0, 1), (126, .iload_n 3, 1)] = true := by decide +kernel
theorem dX6_spread_87 : decode cX6_spread 87 = .ok (.if_icmp .ne 7, 3) := dk_get dk_d01_187 0 rfl
theorem dX6_spread_90 : decode cX6_spread 90 = .ok (.iconst 1, 1) := dk_get dk_d01_187 1 rfl
theorem dX6_spread_91 : decode cX6_spread 91 = .ok (.goto 4, 3) := dk_get dk_d01_187 2 rfl
theorem dX6_spread_94 : decode cX6_spread 94 = .ok (.iconst 0, 1) := dk_get dk_d01_187 3 rfl
theorem dX6_spread_95 : decode cX6_spread 95 = .ok (.putfield 22, 3) := dk_get dk_d01_187 4 rfl
theorem dX6_spread_98 : decode cX6_spread 98 = .ok (.aload_n 0, 1) := dk_get dk_d01_187 5 rfl
theorem dX6_spread_99 : decode cX6_spread 99 = .ok (.iload_n 3, 1) := dk_get dk_d01_187 6 rfl
theorem dX6_spread_100 : decode cX6_spread 100 = .ok (.iconst 1, 1) := dk_get dk_d01_187 7 rfl
theorem dX6_spread_101 : decode cX6_spread 101 = .ok (.iadd, 1) := dk_get dk_d01_187 8 rfl
theorem dX6_spread_102 : decode cX6_spread 102 = .ok (.iload 4, 2) := dk_get dk_d01_187 9 rfl
theorem dX6_spread_104 : decode cX6_spread 104 = .ok (.invokevirtual 46, 3) := dk_get dk_d01_187 10 rfl
theorem dX6_spread_107 : decode cX6_spread 107 = .ok (.aload_n 0, 1) := dk_get dk_d01_187 11 rfl
theorem dX6_spread_108 : decode cX6_spread 108 = .ok (.iload_n 3, 1) := dk_get dk_d01_187 12 rfl
theorem dX6_spread_109 : decode cX6_spread 109 = .ok (.iconst 1, 1) := dk_get dk_d01_187 13 rfl
theorem dX6_spread_110 : decode cX6_spread 110 = .ok (.isub, 1) := dk_get dk_d01_187 14 rfl
theorem dX6_spread_111 : decode cX6_spread 111 = .ok (.iload 4, 2) := dk_get dk_d01_187 15 rfl
theorem dX6_spread_113 : decode cX6_spread 113 = .ok (.invokevirtual 46, 3) := dk_get dk_d01_187 16 rfl
theorem dX6_spread_116 : decode cX6_spread 116 = .ok (.aload_n 0, 1) := dk_get dk_d01_187 17 rfl
theorem dX6_spread_117 : decode cX6_spread 117 = .ok (.iload_n 3, 1) := dk_get dk_d01_187 18 rfl
theorem dX6_spread_118 : decode cX6_spread 118 = .ok (.iload 4, 2) := dk_get dk_d01_187 19 rfl
theorem dX6_spread_120 : decode cX6_spread 120 = .ok (.iconst 1, 1) := dk_get dk_d01_187 20 rfl
theorem dX6_spread_121 : decode cX6_spread 121 = .ok (.iadd, 1) := dk_get dk_d01_187 21 rfl
theorem dX6_spread_122 : decode cX6_spread 122 = .ok (.invokevirtual 46, 3) := dk_get dk_d01_187 22 rfl
theorem dX6_spread_125 : decode cX6_spread 125 = .ok (.aload_n 0, 1) := dk_get dk_d01_187 23 rfl
theorem dX6_spread_126 : decode cX6_spread 126 = .ok (.iload_n 3, 1) := dk_get dk_d01_187 24 rfl
theorem dk_d01_188 : dkc cX6_spread [(127, .iload 4, 2), (129, .iconst 1, 1), (130, .isub, 1), (131, .invokevirtual 46, 3), (134, .iinc 2 1, 3), (137, .goto (-113), 3), (140, .return_, 1)] = true := by decide +kernel
theorem dX6_spread_127 : decode cX6_spread 127 = .ok (.iload 4, 2) := dk_get dk_d01_188 0 rfl
theorem dX6_spread_129 : decode cX6_spread 129 = .ok (.iconst 1, 1) := dk_get dk_d01_188 1 rfl
theorem dX6_spread_130 : decode cX6_spread 130 = .ok (.isub, 1) := dk_get dk_d01_188 2 rfl
theorem dX6_spread_131 : decode cX6_spread 131 = .ok (.invokevirtual 46, 3) := dk_get dk_d01_188 3 rfl
theorem dX6_spread_134 : decode cX6_spread 134 = .ok (.iinc 2 1, 3) := dk_get dk_d01_188 4 rfl
theorem dX6_spread_137 : decode cX6_spread 137 = .ok (.goto (-113), 3) := dk_get dk_d01_188 5 rfl
theorem dX6_spread_140 : decode cX6_spread 140 = .ok (.return_, 1) := dk_get dk_d01_188 6 rfl
theorem dk_d01_189 : dkc cX6_reach [(0, .iload_n 1, 1), (1, .iload_n 2, 1), (2, .invokestatic 50, 3), (5, .istore_n 3, 1), (6, .iload_n 3, 1), (7, .iconst (-1), 1), (8, .if_icmp .eq 49, 3), (11, .aload_n 0, 1), (12, .getfield 9, 3), (15, .iload_n 3, 1), (16, .iaload, 1), (17, .ifCond .ne 40, 3), (20, .aload_n 0, 1), (21, .getfield 18, 3), (24, .sipush 144, 3), (27, .if_icmp .ge 30, 3), (30, .aload_n 0, 1), (31, .getfield 9, 3), (34, .iload_n 3, 1), (35, .iconst 1, 1), (36, .iastore, 1), (37, .aload_n 0, 1), (38, .getfield 15, 3), (41, .aload_n 0, 1), (42, .getfield 18, 3)] = true := by decide +kernel
theorem dX6_reach_0 : decode cX6_reach 0 = .ok (.iload_n 1, 1) := dk_get dk_d01_189 0 rfl
theorem dX6_reach_1 : decode cX6_reach 1 = .ok (.iload_n 2, 1) := dk_get dk_d01_189 1 rfl
theorem dX6_reach_2 : decode cX6_reach 2 = .ok (.invokestatic 50, 3) := dk_get dk_d01_189 2 rfl
theorem dX6_reach_5 : decode cX6_reach 5 = .ok (.istore_n 3, 1) := dk_get dk_d01_189 3 rfl
theorem dX6_reach_6 : decode cX6_reach 6 = .ok (.iload_n 3, 1) := dk_get dk_d01_189 4 rfl
theorem dX6_reach_7 : decode cX6_reach 7 = .ok (.iconst (-1), 1) := dk_get dk_d01_189 5 rfl
theorem dX6_reach_8 : decode cX6_reach 8 = .ok (.if_icmp .eq 49, 3) := dk_get dk_d01_189 6 rfl
theorem dX6_reach_11 : decode cX6_reach 11 = .ok (.aload_n 0, 1) := dk_get dk_d01_189 7 rfl
theorem dX6_reach_12 : decode cX6_reach 12 = .ok (.getfield 9, 3) := dk_get dk_d01_189 8 rfl
theorem dX6_reach_15 : decode cX6_reach 15 = .ok (.iload_n 3, 1) := dk_get dk_d01_189 9 rfl
theorem dX6_reach_16 : decode cX6_reach 16 = .ok (.iaload, 1) := dk_get dk_d01_189 10 rfl
theorem dX6_reach_17 : decode cX6_reach 17 = .ok (.ifCond .ne 40, 3) := dk_get dk_d01_189 11 rfl
theorem dX6_reach_20 : decode cX6_reach 20 = .ok (.aload_n 0, 1) := dk_get dk_d01_189 12 rfl
theorem dX6_reach_21 : decode cX6_reach 21 = .ok (.getfield 18, 3) := dk_get dk_d01_189 13 rfl
theorem dX6_reach_24 : decode cX6_reach 24 = .ok (.sipush 144, 3) := dk_get dk_d01_189 14 rfl
theorem dX6_reach_27 : decode cX6_reach 27 = .ok (.if_icmp .ge 30, 3) := dk_get dk_d01_189 15 rfl
theorem dX6_reach_30 : decode cX6_reach 30 = .ok (.aload_n 0, 1) := dk_get dk_d01_189 16 rfl
theorem dX6_reach_31 : decode cX6_reach 31 = .ok (.getfield 9, 3) := dk_get dk_d01_189 17 rfl
theorem dX6_reach_34 : decode cX6_reach 34 = .ok (.iload_n 3, 1) := dk_get dk_d01_189 18 rfl
theorem dX6_reach_35 : decode cX6_reach 35 = .ok (.iconst 1, 1) := dk_get dk_d01_189 19 rfl
theorem dX6_reach_36 : decode cX6_reach 36 = .ok (.iastore, 1) := dk_get dk_d01_189 20 rfl
theorem dX6_reach_37 : decode cX6_reach 37 = .ok (.aload_n 0, 1) := dk_get dk_d01_189 21 rfl
theorem dX6_reach_38 : decode cX6_reach 38 = .ok (.getfield 15, 3) := dk_get dk_d01_189 22 rfl
theorem dX6_reach_41 : decode cX6_reach 41 = .ok (.aload_n 0, 1) := dk_get dk_d01_189 23 rfl
theorem dX6_reach_42 : decode cX6_reach 42 = .ok (.getfield 18, 3) := dk_get dk_d01_189 24 rfl
theorem dk_d01_190 : dkc cX6_reach [(45, .iload_n 3, 1), (46, .iastore, 1), (47, .aload_n 0, 1), (48, .dup, 1), (49, .getfield 18, 3), (52, .iconst 1, 1), (53, .iadd, 1), (54, .putfield 18, 3), (57, .return_, 1)] = true := by decide +kernel
theorem dX6_reach_45 : decode cX6_reach 45 = .ok (.iload_n 3, 1) := dk_get dk_d01_190 0 rfl
theorem dX6_reach_46 : decode cX6_reach 46 = .ok (.iastore, 1) := dk_get dk_d01_190 1 rfl
theorem dX6_reach_47 : decode cX6_reach 47 = .ok (.aload_n 0, 1) := dk_get dk_d01_190 2 rfl
theorem dX6_reach_48 : decode cX6_reach 48 = .ok (.dup, 1) := dk_get dk_d01_190 3 rfl
theorem dX6_reach_49 : decode cX6_reach 49 = .ok (.getfield 18, 3) := dk_get dk_d01_190 4 rfl
theorem dX6_reach_52 : decode cX6_reach 52 = .ok (.iconst 1, 1) := dk_get dk_d01_190 5 rfl
theorem dX6_reach_53 : decode cX6_reach 53 = .ok (.iadd, 1) := dk_get dk_d01_190 6 rfl
theorem dX6_reach_54 : decode cX6_reach 54 = .ok (.putfield 18, 3) := dk_get dk_d01_190 7 rfl
theorem dX6_reach_57 : decode cX6_reach 57 = .ok (.return_, 1) := dk_get dk_d01_190 8 rfl
theorem dk_d01_191 : dkc cX6_unlike [(0, .iconst 0, 1), (1, .istore_n 2, 1), (2, .iconst 0, 1), (3, .istore_n 3, 1), (4, .iload_n 3, 1), (5, .bipush 12, 2), (7, .if_icmp .ge 71, 3), (10, .iconst 0, 1), (11, .istore 4, 2), (13, .iload 4, 2), (15, .bipush 6, 2), (17, .if_icmp .ge 55, 3), (20, .aload_n 1, 1), (21, .iload_n 3, 1), (22, .bipush 12, 2), (24, .imul, 1), (25, .iload 4, 2), (27, .iadd, 1), (28, .invokevirtual 53, 3), (31, .istore 5, 2), (33, .aload_n 1, 1), (34, .iload_n 3, 1), (35, .bipush 12, 2), (37, .imul, 1), (38, .bipush 12, 2)] = true := by decide +kernel
theorem dX6_unlike_0 : decode cX6_unlike 0 = .ok (.iconst 0, 1) := dk_get dk_d01_191 0 rfl
theorem dX6_unlike_1 : decode cX6_unlike 1 = .ok (.istore_n 2, 1) := dk_get dk_d01_191 1 rfl
theorem dX6_unlike_2 : decode cX6_unlike 2 = .ok (.iconst 0, 1) := dk_get dk_d01_191 2 rfl
theorem dX6_unlike_3 : decode cX6_unlike 3 = .ok (.istore_n 3, 1) := dk_get dk_d01_191 3 rfl
theorem dX6_unlike_4 : decode cX6_unlike 4 = .ok (.iload_n 3, 1) := dk_get dk_d01_191 4 rfl
theorem dX6_unlike_5 : decode cX6_unlike 5 = .ok (.bipush 12, 2) := dk_get dk_d01_191 5 rfl
theorem dX6_unlike_7 : decode cX6_unlike 7 = .ok (.if_icmp .ge 71, 3) := dk_get dk_d01_191 6 rfl
theorem dX6_unlike_10 : decode cX6_unlike 10 = .ok (.iconst 0, 1) := dk_get dk_d01_191 7 rfl
theorem dX6_unlike_11 : decode cX6_unlike 11 = .ok (.istore 4, 2) := dk_get dk_d01_191 8 rfl
theorem dX6_unlike_13 : decode cX6_unlike 13 = .ok (.iload 4, 2) := dk_get dk_d01_191 9 rfl
theorem dX6_unlike_15 : decode cX6_unlike 15 = .ok (.bipush 6, 2) := dk_get dk_d01_191 10 rfl
theorem dX6_unlike_17 : decode cX6_unlike 17 = .ok (.if_icmp .ge 55, 3) := dk_get dk_d01_191 11 rfl
theorem dX6_unlike_20 : decode cX6_unlike 20 = .ok (.aload_n 1, 1) := dk_get dk_d01_191 12 rfl
theorem dX6_unlike_21 : decode cX6_unlike 21 = .ok (.iload_n 3, 1) := dk_get dk_d01_191 13 rfl
theorem dX6_unlike_22 : decode cX6_unlike 22 = .ok (.bipush 12, 2) := dk_get dk_d01_191 14 rfl
theorem dX6_unlike_24 : decode cX6_unlike 24 = .ok (.imul, 1) := dk_get dk_d01_191 15 rfl
theorem dX6_unlike_25 : decode cX6_unlike 25 = .ok (.iload 4, 2) := dk_get dk_d01_191 16 rfl
theorem dX6_unlike_27 : decode cX6_unlike 27 = .ok (.iadd, 1) := dk_get dk_d01_191 17 rfl
theorem dX6_unlike_28 : decode cX6_unlike 28 = .ok (.invokevirtual 53, 3) := dk_get dk_d01_191 18 rfl
theorem dX6_unlike_31 : decode cX6_unlike 31 = .ok (.istore 5, 2) := dk_get dk_d01_191 19 rfl
theorem dX6_unlike_33 : decode cX6_unlike 33 = .ok (.aload_n 1, 1) := dk_get dk_d01_191 20 rfl
theorem dX6_unlike_34 : decode cX6_unlike 34 = .ok (.iload_n 3, 1) := dk_get dk_d01_191 21 rfl
theorem dX6_unlike_35 : decode cX6_unlike 35 = .ok (.bipush 12, 2) := dk_get dk_d01_191 22 rfl
theorem dX6_unlike_37 : decode cX6_unlike 37 = .ok (.imul, 1) := dk_get dk_d01_191 23 rfl
theorem dX6_unlike_38 : decode cX6_unlike 38 = .ok (.bipush 12, 2) := dk_get dk_d01_191 24 rfl
theorem dk_d01_192 : dkc cX6_unlike [(40, .iadd, 1), (41, .iconst 1, 1), (42, .isub, 1), (43, .iload 4, 2), (45, .isub, 1), (46, .invokevirtual 53, 3), (49, .istore 6, 2), (51, .iload_n 2, 1), (52, .iload 5, 2), (54, .iload 6, 2), (56, .if_icmp .ne 7, 3), (59, .iconst 0, 1), (60, .goto 4, 3), (63, .iconst 1, 1), (64, .iadd, 1), (65, .istore_n 2, 1), (66, .iinc 4 1, 3), (69, .goto (-56), 3), (72, .iinc 3 1, 3), (75, .goto (-71), 3), (78, .iload_n 2, 1), (79, .ireturn, 1)] = true := by decide +kernel
theorem dX6_unlike_40 : decode cX6_unlike 40 = .ok (.iadd, 1) := dk_get dk_d01_192 0 rfl
theorem dX6_unlike_41 : decode cX6_unlike 41 = .ok (.iconst 1, 1) := dk_get dk_d01_192 1 rfl
theorem dX6_unlike_42 : decode cX6_unlike 42 = .ok (.isub, 1) := dk_get dk_d01_192 2 rfl
theorem dX6_unlike_43 : decode cX6_unlike 43 = .ok (.iload 4, 2) := dk_get dk_d01_192 3 rfl
theorem dX6_unlike_45 : decode cX6_unlike 45 = .ok (.isub, 1) := dk_get dk_d01_192 4 rfl
theorem dX6_unlike_46 : decode cX6_unlike 46 = .ok (.invokevirtual 53, 3) := dk_get dk_d01_192 5 rfl
theorem dX6_unlike_49 : decode cX6_unlike 49 = .ok (.istore 6, 2) := dk_get dk_d01_192 6 rfl
theorem dX6_unlike_51 : decode cX6_unlike 51 = .ok (.iload_n 2, 1) := dk_get dk_d01_192 7 rfl
theorem dX6_unlike_52 : decode cX6_unlike 52 = .ok (.iload 5, 2) := dk_get dk_d01_192 8 rfl
theorem dX6_unlike_54 : decode cX6_unlike 54 = .ok (.iload 6, 2) := dk_get dk_d01_192 9 rfl
theorem dX6_unlike_56 : decode cX6_unlike 56 = .ok (.if_icmp .ne 7, 3) := dk_get dk_d01_192 10 rfl
theorem dX6_unlike_59 : decode cX6_unlike 59 = .ok (.iconst 0, 1) := dk_get dk_d01_192 11 rfl
theorem dX6_unlike_60 : decode cX6_unlike 60 = .ok (.goto 4, 3) := dk_get dk_d01_192 12 rfl
theorem dX6_unlike_63 : decode cX6_unlike 63 = .ok (.iconst 1, 1) := dk_get dk_d01_192 13 rfl
theorem dX6_unlike_64 : decode cX6_unlike 64 = .ok (.iadd, 1) := dk_get dk_d01_192 14 rfl
theorem dX6_unlike_65 : decode cX6_unlike 65 = .ok (.istore_n 2, 1) := dk_get dk_d01_192 15 rfl
theorem dX6_unlike_66 : decode cX6_unlike 66 = .ok (.iinc 4 1, 3) := dk_get dk_d01_192 16 rfl
theorem dX6_unlike_69 : decode cX6_unlike 69 = .ok (.goto (-56), 3) := dk_get dk_d01_192 17 rfl
theorem dX6_unlike_72 : decode cX6_unlike 72 = .ok (.iinc 3 1, 3) := dk_get dk_d01_192 18 rfl
theorem dX6_unlike_75 : decode cX6_unlike 75 = .ok (.goto (-71), 3) := dk_get dk_d01_192 19 rfl
theorem dX6_unlike_78 : decode cX6_unlike 78 = .ok (.iload_n 2, 1) := dk_get dk_d01_192 20 rfl
theorem dX6_unlike_79 : decode cX6_unlike 79 = .ok (.ireturn, 1) := dk_get dk_d01_192 21 rfl
theorem dk_d01_193 : dkc cX6_bareSquare [(0, .iconst 0, 1), (1, .istore_n 3, 1), (2, .iconst (-1), 1), (3, .istore 4, 2), (5, .sipush 143, 3), (8, .istore 5, 2), (10, .iload 5, 2), (12, .ifCond .lt 70, 3), (15, .aload_n 0, 1), (16, .getfield 9, 3), (19, .iload 5, 2), (21, .aload_n 1, 1), (22, .iload 5, 2), (24, .invokevirtual 30, 3), (27, .ifCond .eq 7, 3), (30, .iconst 0, 1), (31, .goto 11, 3), (34, .iconst 1, 1), (35, .aload_n 0, 1), (36, .iload 5, 2), (38, .invokevirtual 57, 3), (41, .iadd, 1), (42, .iastore, 1), (43, .aload_n 0, 1), (44, .getfield 9, 3)] = true := by decide +kernel
theorem dX6_bareSquare_0 : decode cX6_bareSquare 0 = .ok (.iconst 0, 1) := dk_get dk_d01_193 0 rfl
theorem dX6_bareSquare_1 : decode cX6_bareSquare 1 = .ok (.istore_n 3, 1) := dk_get dk_d01_193 1 rfl
theorem dX6_bareSquare_2 : decode cX6_bareSquare 2 = .ok (.iconst (-1), 1) := dk_get dk_d01_193 2 rfl
theorem dX6_bareSquare_3 : decode cX6_bareSquare 3 = .ok (.istore 4, 2) := dk_get dk_d01_193 3 rfl
theorem dX6_bareSquare_5 : decode cX6_bareSquare 5 = .ok (.sipush 143, 3) := dk_get dk_d01_193 4 rfl
theorem dX6_bareSquare_8 : decode cX6_bareSquare 8 = .ok (.istore 5, 2) := dk_get dk_d01_193 5 rfl
theorem dX6_bareSquare_10 : decode cX6_bareSquare 10 = .ok (.iload 5, 2) := dk_get dk_d01_193 6 rfl
theorem dX6_bareSquare_12 : decode cX6_bareSquare 12 = .ok (.ifCond .lt 70, 3) := dk_get dk_d01_193 7 rfl
theorem dX6_bareSquare_15 : decode cX6_bareSquare 15 = .ok (.aload_n 0, 1) := dk_get dk_d01_193 8 rfl
theorem dX6_bareSquare_16 : decode cX6_bareSquare 16 = .ok (.getfield 9, 3) := dk_get dk_d01_193 9 rfl
theorem dX6_bareSquare_19 : decode cX6_bareSquare 19 = .ok (.iload 5, 2) := dk_get dk_d01_193 10 rfl
theorem dX6_bareSquare_21 : decode cX6_bareSquare 21 = .ok (.aload_n 1, 1) := dk_get dk_d01_193 11 rfl
theorem dX6_bareSquare_22 : decode cX6_bareSquare 22 = .ok (.iload 5, 2) := dk_get dk_d01_193 12 rfl
theorem dX6_bareSquare_24 : decode cX6_bareSquare 24 = .ok (.invokevirtual 30, 3) := dk_get dk_d01_193 13 rfl
theorem dX6_bareSquare_27 : decode cX6_bareSquare 27 = .ok (.ifCond .eq 7, 3) := dk_get dk_d01_193 14 rfl
theorem dX6_bareSquare_30 : decode cX6_bareSquare 30 = .ok (.iconst 0, 1) := dk_get dk_d01_193 15 rfl
theorem dX6_bareSquare_31 : decode cX6_bareSquare 31 = .ok (.goto 11, 3) := dk_get dk_d01_193 16 rfl
theorem dX6_bareSquare_34 : decode cX6_bareSquare 34 = .ok (.iconst 1, 1) := dk_get dk_d01_193 17 rfl
theorem dX6_bareSquare_35 : decode cX6_bareSquare 35 = .ok (.aload_n 0, 1) := dk_get dk_d01_193 18 rfl
theorem dX6_bareSquare_36 : decode cX6_bareSquare 36 = .ok (.iload 5, 2) := dk_get dk_d01_193 19 rfl
theorem dX6_bareSquare_38 : decode cX6_bareSquare 38 = .ok (.invokevirtual 57, 3) := dk_get dk_d01_193 20 rfl
theorem dX6_bareSquare_41 : decode cX6_bareSquare 41 = .ok (.iadd, 1) := dk_get dk_d01_193 21 rfl
theorem dX6_bareSquare_42 : decode cX6_bareSquare 42 = .ok (.iastore, 1) := dk_get dk_d01_193 22 rfl
theorem dX6_bareSquare_43 : decode cX6_bareSquare 43 = .ok (.aload_n 0, 1) := dk_get dk_d01_193 23 rfl
theorem dX6_bareSquare_44 : decode cX6_bareSquare 44 = .ok (.getfield 9, 3) := dk_get dk_d01_193 24 rfl
theorem dk_d01_194 : dkc cX6_bareSquare [(47, .iload 5, 2), (49, .iaload, 1), (50, .ifCond .le 26, 3), (53, .aload_n 0, 1), (54, .getfield 9, 3), (57, .iload 5, 2), (59, .iaload, 1), (60, .iload_n 3, 1), (61, .if_icmp .lt 15, 3), (64, .aload_n 0, 1), (65, .getfield 9, 3), (68, .iload 5, 2), (70, .iaload, 1), (71, .istore_n 3, 1), (72, .iload 5, 2), (74, .istore 4, 2), (76, .iinc 5 (-1), 3), (79, .goto (-69), 3), (82, .iload_n 2, 1), (83, .ifCond .ne 5, 3), (86, .iload_n 3, 1), (87, .ireturn, 1), (88, .iload 4, 2), (90, .iconst (-1), 1), (91, .if_icmp .ne 5, 3)] = true := by decide +kernel
theorem dX6_bareSquare_47 : decode cX6_bareSquare 47 = .ok (.iload 5, 2) := dk_get dk_d01_194 0 rfl
theorem dX6_bareSquare_49 : decode cX6_bareSquare 49 = .ok (.iaload, 1) := dk_get dk_d01_194 1 rfl
theorem dX6_bareSquare_50 : decode cX6_bareSquare 50 = .ok (.ifCond .le 26, 3) := dk_get dk_d01_194 2 rfl
theorem dX6_bareSquare_53 : decode cX6_bareSquare 53 = .ok (.aload_n 0, 1) := dk_get dk_d01_194 3 rfl
theorem dX6_bareSquare_54 : decode cX6_bareSquare 54 = .ok (.getfield 9, 3) := dk_get dk_d01_194 4 rfl
theorem dX6_bareSquare_57 : decode cX6_bareSquare 57 = .ok (.iload 5, 2) := dk_get dk_d01_194 5 rfl
theorem dX6_bareSquare_59 : decode cX6_bareSquare 59 = .ok (.iaload, 1) := dk_get dk_d01_194 6 rfl
theorem dX6_bareSquare_60 : decode cX6_bareSquare 60 = .ok (.iload_n 3, 1) := dk_get dk_d01_194 7 rfl
theorem dX6_bareSquare_61 : decode cX6_bareSquare 61 = .ok (.if_icmp .lt 15, 3) := dk_get dk_d01_194 8 rfl
theorem dX6_bareSquare_64 : decode cX6_bareSquare 64 = .ok (.aload_n 0, 1) := dk_get dk_d01_194 9 rfl
theorem dX6_bareSquare_65 : decode cX6_bareSquare 65 = .ok (.getfield 9, 3) := dk_get dk_d01_194 10 rfl
theorem dX6_bareSquare_68 : decode cX6_bareSquare 68 = .ok (.iload 5, 2) := dk_get dk_d01_194 11 rfl
theorem dX6_bareSquare_70 : decode cX6_bareSquare 70 = .ok (.iaload, 1) := dk_get dk_d01_194 12 rfl
theorem dX6_bareSquare_71 : decode cX6_bareSquare 71 = .ok (.istore_n 3, 1) := dk_get dk_d01_194 13 rfl
theorem dX6_bareSquare_72 : decode cX6_bareSquare 72 = .ok (.iload 5, 2) := dk_get dk_d01_194 14 rfl
theorem dX6_bareSquare_74 : decode cX6_bareSquare 74 = .ok (.istore 4, 2) := dk_get dk_d01_194 15 rfl
theorem dX6_bareSquare_76 : decode cX6_bareSquare 76 = .ok (.iinc 5 (-1), 3) := dk_get dk_d01_194 16 rfl
theorem dX6_bareSquare_79 : decode cX6_bareSquare 79 = .ok (.goto (-69), 3) := dk_get dk_d01_194 17 rfl
theorem dX6_bareSquare_82 : decode cX6_bareSquare 82 = .ok (.iload_n 2, 1) := dk_get dk_d01_194 18 rfl
theorem dX6_bareSquare_83 : decode cX6_bareSquare 83 = .ok (.ifCond .ne 5, 3) := dk_get dk_d01_194 19 rfl
theorem dX6_bareSquare_86 : decode cX6_bareSquare 86 = .ok (.iload_n 3, 1) := dk_get dk_d01_194 20 rfl
theorem dX6_bareSquare_87 : decode cX6_bareSquare 87 = .ok (.ireturn, 1) := dk_get dk_d01_194 21 rfl
theorem dX6_bareSquare_88 : decode cX6_bareSquare 88 = .ok (.iload 4, 2) := dk_get dk_d01_194 22 rfl
theorem dX6_bareSquare_90 : decode cX6_bareSquare 90 = .ok (.iconst (-1), 1) := dk_get dk_d01_194 23 rfl
theorem dX6_bareSquare_91 : decode cX6_bareSquare 91 = .ok (.if_icmp .ne 5, 3) := dk_get dk_d01_194 24 rfl
theorem dk_d01_195 : dkc cX6_bareSquare [(94, .iconst (-1), 1), (95, .ireturn, 1), (96, .iload_n 2, 1), (97, .iconst 1, 1), (98, .if_icmp .ne 11, 3), (101, .iload 4, 2), (103, .bipush 12, 2), (105, .idiv, 1), (106, .goto 8, 3), (109, .iload 4, 2), (111, .bipush 12, 2), (113, .irem, 1), (114, .ireturn, 1)] = true := by decide +kernel
theorem dX6_bareSquare_94 : decode cX6_bareSquare 94 = .ok (.iconst (-1), 1) := dk_get dk_d01_195 0 rfl
theorem dX6_bareSquare_95 : decode cX6_bareSquare 95 = .ok (.ireturn, 1) := dk_get dk_d01_195 1 rfl
theorem dX6_bareSquare_96 : decode cX6_bareSquare 96 = .ok (.iload_n 2, 1) := dk_get dk_d01_195 2 rfl
theorem dX6_bareSquare_97 : decode cX6_bareSquare 97 = .ok (.iconst 1, 1) := dk_get dk_d01_195 3 rfl
theorem dX6_bareSquare_98 : decode cX6_bareSquare 98 = .ok (.if_icmp .ne 11, 3) := dk_get dk_d01_195 4 rfl
theorem dX6_bareSquare_101 : decode cX6_bareSquare 101 = .ok (.iload 4, 2) := dk_get dk_d01_195 5 rfl
theorem dX6_bareSquare_103 : decode cX6_bareSquare 103 = .ok (.bipush 12, 2) := dk_get dk_d01_195 6 rfl
theorem dX6_bareSquare_105 : decode cX6_bareSquare 105 = .ok (.idiv, 1) := dk_get dk_d01_195 7 rfl
theorem dX6_bareSquare_106 : decode cX6_bareSquare 106 = .ok (.goto 8, 3) := dk_get dk_d01_195 8 rfl
theorem dX6_bareSquare_109 : decode cX6_bareSquare 109 = .ok (.iload 4, 2) := dk_get dk_d01_195 9 rfl
theorem dX6_bareSquare_111 : decode cX6_bareSquare 111 = .ok (.bipush 12, 2) := dk_get dk_d01_195 10 rfl
theorem dX6_bareSquare_113 : decode cX6_bareSquare 113 = .ok (.irem, 1) := dk_get dk_d01_195 11 rfl
theorem dX6_bareSquare_114 : decode cX6_bareSquare 114 = .ok (.ireturn, 1) := dk_get dk_d01_195 12 rfl
theorem dk_d01_196 : dkc cX6_squareBehind [(0, .iload_n 1, 1), (1, .ifCond .lt 24, 3), (4, .iload_n 1, 1), (5, .bipush 12, 2), (7, .iadd, 1), (8, .iconst 1, 1), (9, .iadd, 1), (10, .sipush 144, 3), (13, .if_icmp .ge 12, 3), (16, .iload_n 1, 1), (17, .bipush 12, 2), (19, .irem, 1), (20, .bipush 11, 2), (22, .if_icmp .ne 5, 3), (25, .iconst 0, 1), (26, .ireturn, 1), (27, .aload_n 0, 1), (28, .getfield 9, 3), (31, .iload_n 1, 1), (32, .iconst 1, 1), (33, .iadd, 1), (34, .iaload, 1), (35, .aload_n 0, 1), (36, .getfield 9, 3), (39, .iload_n 1, 1)] = true := by decide +kernel
theorem dX6_squareBehind_0 : decode cX6_squareBehind 0 = .ok (.iload_n 1, 1) := dk_get dk_d01_196 0 rfl
theorem dX6_squareBehind_1 : decode cX6_squareBehind 1 = .ok (.ifCond .lt 24, 3) := dk_get dk_d01_196 1 rfl
theorem dX6_squareBehind_4 : decode cX6_squareBehind 4 = .ok (.iload_n 1, 1) := dk_get dk_d01_196 2 rfl
theorem dX6_squareBehind_5 : decode cX6_squareBehind 5 = .ok (.bipush 12, 2) := dk_get dk_d01_196 3 rfl
theorem dX6_squareBehind_7 : decode cX6_squareBehind 7 = .ok (.iadd, 1) := dk_get dk_d01_196 4 rfl
theorem dX6_squareBehind_8 : decode cX6_squareBehind 8 = .ok (.iconst 1, 1) := dk_get dk_d01_196 5 rfl
theorem dX6_squareBehind_9 : decode cX6_squareBehind 9 = .ok (.iadd, 1) := dk_get dk_d01_196 6 rfl
theorem dX6_squareBehind_10 : decode cX6_squareBehind 10 = .ok (.sipush 144, 3) := dk_get dk_d01_196 7 rfl
theorem dX6_squareBehind_13 : decode cX6_squareBehind 13 = .ok (.if_icmp .ge 12, 3) := dk_get dk_d01_196 8 rfl
theorem dX6_squareBehind_16 : decode cX6_squareBehind 16 = .ok (.iload_n 1, 1) := dk_get dk_d01_196 9 rfl
theorem dX6_squareBehind_17 : decode cX6_squareBehind 17 = .ok (.bipush 12, 2) := dk_get dk_d01_196 10 rfl
theorem dX6_squareBehind_19 : decode cX6_squareBehind 19 = .ok (.irem, 1) := dk_get dk_d01_196 11 rfl
theorem dX6_squareBehind_20 : decode cX6_squareBehind 20 = .ok (.bipush 11, 2) := dk_get dk_d01_196 12 rfl
theorem dX6_squareBehind_22 : decode cX6_squareBehind 22 = .ok (.if_icmp .ne 5, 3) := dk_get dk_d01_196 13 rfl
theorem dX6_squareBehind_25 : decode cX6_squareBehind 25 = .ok (.iconst 0, 1) := dk_get dk_d01_196 14 rfl
theorem dX6_squareBehind_26 : decode cX6_squareBehind 26 = .ok (.ireturn, 1) := dk_get dk_d01_196 15 rfl
theorem dX6_squareBehind_27 : decode cX6_squareBehind 27 = .ok (.aload_n 0, 1) := dk_get dk_d01_196 16 rfl
theorem dX6_squareBehind_28 : decode cX6_squareBehind 28 = .ok (.getfield 9, 3) := dk_get dk_d01_196 17 rfl
theorem dX6_squareBehind_31 : decode cX6_squareBehind 31 = .ok (.iload_n 1, 1) := dk_get dk_d01_196 18 rfl
theorem dX6_squareBehind_32 : decode cX6_squareBehind 32 = .ok (.iconst 1, 1) := dk_get dk_d01_196 19 rfl
theorem dX6_squareBehind_33 : decode cX6_squareBehind 33 = .ok (.iadd, 1) := dk_get dk_d01_196 20 rfl
theorem dX6_squareBehind_34 : decode cX6_squareBehind 34 = .ok (.iaload, 1) := dk_get dk_d01_196 21 rfl
theorem dX6_squareBehind_35 : decode cX6_squareBehind 35 = .ok (.aload_n 0, 1) := dk_get dk_d01_196 22 rfl
theorem dX6_squareBehind_36 : decode cX6_squareBehind 36 = .ok (.getfield 9, 3) := dk_get dk_d01_196 23 rfl
theorem dX6_squareBehind_39 : decode cX6_squareBehind 39 = .ok (.iload_n 1, 1) := dk_get dk_d01_196 24 rfl
theorem dk_d01_197 : dkc cX6_squareBehind [(40, .bipush 12, 2), (42, .iadd, 1), (43, .iaload, 1), (44, .aload_n 0, 1), (45, .getfield 9, 3), (48, .iload_n 1, 1), (49, .bipush 12, 2), (51, .iadd, 1), (52, .iconst 1, 1), (53, .iadd, 1), (54, .iaload, 1), (55, .invokestatic 60, 3), (58, .invokestatic 60, 3), (61, .ireturn, 1)] = true := by decide +kernel
theorem dX6_squareBehind_40 : decode cX6_squareBehind 40 = .ok (.bipush 12, 2) := dk_get dk_d01_197 0 rfl
theorem dX6_squareBehind_42 : decode cX6_squareBehind 42 = .ok (.iadd, 1) := dk_get dk_d01_197 1 rfl
theorem dX6_squareBehind_43 : decode cX6_squareBehind 43 = .ok (.iaload, 1) := dk_get dk_d01_197 2 rfl
theorem dX6_squareBehind_44 : decode cX6_squareBehind 44 = .ok (.aload_n 0, 1) := dk_get dk_d01_197 3 rfl
theorem dX6_squareBehind_45 : decode cX6_squareBehind 45 = .ok (.getfield 9, 3) := dk_get dk_d01_197 4 rfl
theorem dX6_squareBehind_48 : decode cX6_squareBehind 48 = .ok (.iload_n 1, 1) := dk_get dk_d01_197 5 rfl
theorem dX6_squareBehind_49 : decode cX6_squareBehind 49 = .ok (.bipush 12, 2) := dk_get dk_d01_197 6 rfl
theorem dX6_squareBehind_51 : decode cX6_squareBehind 51 = .ok (.iadd, 1) := dk_get dk_d01_197 7 rfl
theorem dX6_squareBehind_52 : decode cX6_squareBehind 52 = .ok (.iconst 1, 1) := dk_get dk_d01_197 8 rfl
theorem dX6_squareBehind_53 : decode cX6_squareBehind 53 = .ok (.iadd, 1) := dk_get dk_d01_197 9 rfl
theorem dX6_squareBehind_54 : decode cX6_squareBehind 54 = .ok (.iaload, 1) := dk_get dk_d01_197 10 rfl
theorem dX6_squareBehind_55 : decode cX6_squareBehind 55 = .ok (.invokestatic 60, 3) := dk_get dk_d01_197 11 rfl
theorem dX6_squareBehind_58 : decode cX6_squareBehind 58 = .ok (.invokestatic 60, 3) := dk_get dk_d01_197 12 rfl
theorem dX6_squareBehind_61 : decode cX6_squareBehind 61 = .ok (.ireturn, 1) := dk_get dk_d01_197 13 rfl
theorem dk_d01_198 : dkc cX7_init [(0, .aload_n 0, 1), (1, .invokespecial 3, 3), (4, .aload_n 0, 1), (5, .bipush 6, 2), (7, .anewarray 9, 3), (10, .putfield 11, 3), (13, .aload_n 0, 1), (14, .iconst 0, 1), (15, .putfield 17, 3), (18, .aload_n 0, 1), (19, .iconst 0, 1), (20, .putfield 21, 3), (23, .iconst 0, 1), (24, .istore_n 1, 1), (25, .iload_n 1, 1), (26, .bipush 6, 2), (28, .if_icmp .ge 22, 3), (31, .aload_n 0, 1), (32, .getfield 11, 3), (35, .iload_n 1, 1), (36, .new 9, 3), (39, .dup, 1), (40, .invokespecial 24, 3), (43, .aastore, 1), (44, .iinc 1 1, 3)] = true := by decide +kernel
theorem dX7_init_0 : decode cX7_init 0 = .ok (.aload_n 0, 1) := dk_get dk_d01_198 0 rfl
theorem dX7_init_1 : decode cX7_init 1 = .ok (.invokespecial 3, 3) := dk_get dk_d01_198 1 rfl
theorem dX7_init_4 : decode cX7_init 4 = .ok (.aload_n 0, 1) := dk_get dk_d01_198 2 rfl
theorem dX7_init_5 : decode cX7_init 5 = .ok (.bipush 6, 2) := dk_get dk_d01_198 3 rfl
theorem dX7_init_7 : decode cX7_init 7 = .ok (.anewarray 9, 3) := dk_get dk_d01_198 4 rfl
theorem dX7_init_10 : decode cX7_init 10 = .ok (.putfield 11, 3) := dk_get dk_d01_198 5 rfl
theorem dX7_init_13 : decode cX7_init 13 = .ok (.aload_n 0, 1) := dk_get dk_d01_198 6 rfl
theorem dX7_init_14 : decode cX7_init 14 = .ok (.iconst 0, 1) := dk_get dk_d01_198 7 rfl
theorem dX7_init_15 : decode cX7_init 15 = .ok (.putfield 17, 3) := dk_get dk_d01_198 8 rfl
theorem dX7_init_18 : decode cX7_init 18 = .ok (.aload_n 0, 1) := dk_get dk_d01_198 9 rfl
theorem dX7_init_19 : decode cX7_init 19 = .ok (.iconst 0, 1) := dk_get dk_d01_198 10 rfl
theorem dX7_init_20 : decode cX7_init 20 = .ok (.putfield 21, 3) := dk_get dk_d01_198 11 rfl
theorem dX7_init_23 : decode cX7_init 23 = .ok (.iconst 0, 1) := dk_get dk_d01_198 12 rfl
theorem dX7_init_24 : decode cX7_init 24 = .ok (.istore_n 1, 1) := dk_get dk_d01_198 13 rfl
theorem dX7_init_25 : decode cX7_init 25 = .ok (.iload_n 1, 1) := dk_get dk_d01_198 14 rfl
theorem dX7_init_26 : decode cX7_init 26 = .ok (.bipush 6, 2) := dk_get dk_d01_198 15 rfl
theorem dX7_init_28 : decode cX7_init 28 = .ok (.if_icmp .ge 22, 3) := dk_get dk_d01_198 16 rfl
theorem dX7_init_31 : decode cX7_init 31 = .ok (.aload_n 0, 1) := dk_get dk_d01_198 17 rfl
theorem dX7_init_32 : decode cX7_init 32 = .ok (.getfield 11, 3) := dk_get dk_d01_198 18 rfl
theorem dX7_init_35 : decode cX7_init 35 = .ok (.iload_n 1, 1) := dk_get dk_d01_198 19 rfl
theorem dX7_init_36 : decode cX7_init 36 = .ok (.new 9, 3) := dk_get dk_d01_198 20 rfl
theorem dX7_init_39 : decode cX7_init 39 = .ok (.dup, 1) := dk_get dk_d01_198 21 rfl
theorem dX7_init_40 : decode cX7_init 40 = .ok (.invokespecial 24, 3) := dk_get dk_d01_198 22 rfl
theorem dX7_init_43 : decode cX7_init 43 = .ok (.aastore, 1) := dk_get dk_d01_198 23 rfl
theorem dX7_init_44 : decode cX7_init 44 = .ok (.iinc 1 1, 3) := dk_get dk_d01_198 24 rfl
theorem dk_d01_199 : dkc cX7_init [(47, .goto (-22), 3), (50, .return_, 1)] = true := by decide +kernel
theorem dX7_init_47 : decode cX7_init 47 = .ok (.goto (-22), 3) := dk_get dk_d01_199 0 rfl
theorem dX7_init_50 : decode cX7_init 50 = .ok (.return_, 1) := dk_get dk_d01_199 1 rfl
theorem dk_d01_200 : dkc cX7_keep [(0, .aload_n 0, 1), (1, .getfield 17, 3), (4, .ifCond .lt 12, 3), (7, .aload_n 0, 1), (8, .getfield 17, 3), (11, .bipush 6, 2), (13, .if_icmp .lt 4, 3), (16, .return_, 1), (17, .aload_n 0, 1), (18, .getfield 11, 3), (21, .aload_n 0, 1), (22, .getfield 17, 3), (25, .aaload, 1), (26, .aload_n 1, 1), (27, .invokevirtual 25, 3), (30, .aload_n 0, 1), (31, .aload_n 0, 1), (32, .getfield 17, 3), (35, .iconst 1, 1), (36, .iadd, 1), (37, .bipush 6, 2), (39, .if_icmp .ge 12, 3), (42, .aload_n 0, 1), (43, .getfield 17, 3), (46, .iconst 1, 1)] = true := by decide +kernel
theorem dX7_keep_0 : decode cX7_keep 0 = .ok (.aload_n 0, 1) := dk_get dk_d01_200 0 rfl
theorem dX7_keep_1 : decode cX7_keep 1 = .ok (.getfield 17, 3) := dk_get dk_d01_200 1 rfl
theorem dX7_keep_4 : decode cX7_keep 4 = .ok (.ifCond .lt 12, 3) := dk_get dk_d01_200 2 rfl
theorem dX7_keep_7 : decode cX7_keep 7 = .ok (.aload_n 0, 1) := dk_get dk_d01_200 3 rfl
theorem dX7_keep_8 : decode cX7_keep 8 = .ok (.getfield 17, 3) := dk_get dk_d01_200 4 rfl
theorem dX7_keep_11 : decode cX7_keep 11 = .ok (.bipush 6, 2) := dk_get dk_d01_200 5 rfl
theorem dX7_keep_13 : decode cX7_keep 13 = .ok (.if_icmp .lt 4, 3) := dk_get dk_d01_200 6 rfl
theorem dX7_keep_16 : decode cX7_keep 16 = .ok (.return_, 1) := dk_get dk_d01_200 7 rfl
theorem dX7_keep_17 : decode cX7_keep 17 = .ok (.aload_n 0, 1) := dk_get dk_d01_200 8 rfl
theorem dX7_keep_18 : decode cX7_keep 18 = .ok (.getfield 11, 3) := dk_get dk_d01_200 9 rfl
theorem dX7_keep_21 : decode cX7_keep 21 = .ok (.aload_n 0, 1) := dk_get dk_d01_200 10 rfl
theorem dX7_keep_22 : decode cX7_keep 22 = .ok (.getfield 17, 3) := dk_get dk_d01_200 11 rfl
theorem dX7_keep_25 : decode cX7_keep 25 = .ok (.aaload, 1) := dk_get dk_d01_200 12 rfl
theorem dX7_keep_26 : decode cX7_keep 26 = .ok (.aload_n 1, 1) := dk_get dk_d01_200 13 rfl
theorem dX7_keep_27 : decode cX7_keep 27 = .ok (.invokevirtual 25, 3) := dk_get dk_d01_200 14 rfl
theorem dX7_keep_30 : decode cX7_keep 30 = .ok (.aload_n 0, 1) := dk_get dk_d01_200 15 rfl
theorem dX7_keep_31 : decode cX7_keep 31 = .ok (.aload_n 0, 1) := dk_get dk_d01_200 16 rfl
theorem dX7_keep_32 : decode cX7_keep 32 = .ok (.getfield 17, 3) := dk_get dk_d01_200 17 rfl
theorem dX7_keep_35 : decode cX7_keep 35 = .ok (.iconst 1, 1) := dk_get dk_d01_200 18 rfl
theorem dX7_keep_36 : decode cX7_keep 36 = .ok (.iadd, 1) := dk_get dk_d01_200 19 rfl
theorem dX7_keep_37 : decode cX7_keep 37 = .ok (.bipush 6, 2) := dk_get dk_d01_200 20 rfl
theorem dX7_keep_39 : decode cX7_keep 39 = .ok (.if_icmp .ge 12, 3) := dk_get dk_d01_200 21 rfl
theorem dX7_keep_42 : decode cX7_keep 42 = .ok (.aload_n 0, 1) := dk_get dk_d01_200 22 rfl
theorem dX7_keep_43 : decode cX7_keep 43 = .ok (.getfield 17, 3) := dk_get dk_d01_200 23 rfl
theorem dX7_keep_46 : decode cX7_keep 46 = .ok (.iconst 1, 1) := dk_get dk_d01_200 24 rfl
theorem dk_d01_201 : dkc cX7_keep [(47, .iadd, 1), (48, .goto 4, 3), (51, .iconst 0, 1), (52, .putfield 17, 3), (55, .aload_n 0, 1), (56, .aload_n 0, 1), (57, .getfield 21, 3), (60, .iconst 1, 1), (61, .iadd, 1), (62, .bipush 6, 2), (64, .invokestatic 29, 3), (67, .putfield 21, 3), (70, .return_, 1)] = true := by decide +kernel
theorem dX7_keep_47 : decode cX7_keep 47 = .ok (.iadd, 1) := dk_get dk_d01_201 0 rfl
theorem dX7_keep_48 : decode cX7_keep 48 = .ok (.goto 4, 3) := dk_get dk_d01_201 1 rfl
theorem dX7_keep_51 : decode cX7_keep 51 = .ok (.iconst 0, 1) := dk_get dk_d01_201 2 rfl
theorem dX7_keep_52 : decode cX7_keep 52 = .ok (.putfield 17, 3) := dk_get dk_d01_201 3 rfl
theorem dX7_keep_55 : decode cX7_keep 55 = .ok (.aload_n 0, 1) := dk_get dk_d01_201 4 rfl
theorem dX7_keep_56 : decode cX7_keep 56 = .ok (.aload_n 0, 1) := dk_get dk_d01_201 5 rfl
theorem dX7_keep_57 : decode cX7_keep 57 = .ok (.getfield 21, 3) := dk_get dk_d01_201 6 rfl
theorem dX7_keep_60 : decode cX7_keep 60 = .ok (.iconst 1, 1) := dk_get dk_d01_201 7 rfl
theorem dX7_keep_61 : decode cX7_keep 61 = .ok (.iadd, 1) := dk_get dk_d01_201 8 rfl
theorem dX7_keep_62 : decode cX7_keep 62 = .ok (.bipush 6, 2) := dk_get dk_d01_201 9 rfl
theorem dX7_keep_64 : decode cX7_keep 64 = .ok (.invokestatic 29, 3) := dk_get dk_d01_201 10 rfl
theorem dX7_keep_67 : decode cX7_keep 67 = .ok (.putfield 21, 3) := dk_get dk_d01_201 11 rfl
theorem dX7_keep_70 : decode cX7_keep 70 = .ok (.return_, 1) := dk_get dk_d01_201 12 rfl
theorem dk_d01_202 : dkc cX7_goBack [(0, .aload_n 0, 1), (1, .getfield 21, 3), (4, .ifCond .eq 19, 3), (7, .aload_n 0, 1), (8, .getfield 17, 3), (11, .ifCond .lt 12, 3), (14, .aload_n 0, 1), (15, .getfield 17, 3), (18, .bipush 6, 2), (20, .if_icmp .lt 5, 3), (23, .iconst 0, 1), (24, .ireturn, 1), (25, .aload_n 0, 1), (26, .aload_n 0, 1), (27, .getfield 17, 3), (30, .ifCond .le 12, 3), (33, .aload_n 0, 1), (34, .getfield 17, 3), (37, .iconst 1, 1), (38, .isub, 1), (39, .goto 4, 3), (42, .iconst 5, 1), (43, .putfield 17, 3), (46, .aload_n 0, 1), (47, .dup, 1)] = true := by decide +kernel
theorem dX7_goBack_0 : decode cX7_goBack 0 = .ok (.aload_n 0, 1) := dk_get dk_d01_202 0 rfl
theorem dX7_goBack_1 : decode cX7_goBack 1 = .ok (.getfield 21, 3) := dk_get dk_d01_202 1 rfl
theorem dX7_goBack_4 : decode cX7_goBack 4 = .ok (.ifCond .eq 19, 3) := dk_get dk_d01_202 2 rfl
theorem dX7_goBack_7 : decode cX7_goBack 7 = .ok (.aload_n 0, 1) := dk_get dk_d01_202 3 rfl
theorem dX7_goBack_8 : decode cX7_goBack 8 = .ok (.getfield 17, 3) := dk_get dk_d01_202 4 rfl
theorem dX7_goBack_11 : decode cX7_goBack 11 = .ok (.ifCond .lt 12, 3) := dk_get dk_d01_202 5 rfl
theorem dX7_goBack_14 : decode cX7_goBack 14 = .ok (.aload_n 0, 1) := dk_get dk_d01_202 6 rfl
theorem dX7_goBack_15 : decode cX7_goBack 15 = .ok (.getfield 17, 3) := dk_get dk_d01_202 7 rfl
theorem dX7_goBack_18 : decode cX7_goBack 18 = .ok (.bipush 6, 2) := dk_get dk_d01_202 8 rfl
theorem dX7_goBack_20 : decode cX7_goBack 20 = .ok (.if_icmp .lt 5, 3) := dk_get dk_d01_202 9 rfl
theorem dX7_goBack_23 : decode cX7_goBack 23 = .ok (.iconst 0, 1) := dk_get dk_d01_202 10 rfl
theorem dX7_goBack_24 : decode cX7_goBack 24 = .ok (.ireturn, 1) := dk_get dk_d01_202 11 rfl
theorem dX7_goBack_25 : decode cX7_goBack 25 = .ok (.aload_n 0, 1) := dk_get dk_d01_202 12 rfl
theorem dX7_goBack_26 : decode cX7_goBack 26 = .ok (.aload_n 0, 1) := dk_get dk_d01_202 13 rfl
theorem dX7_goBack_27 : decode cX7_goBack 27 = .ok (.getfield 17, 3) := dk_get dk_d01_202 14 rfl
theorem dX7_goBack_30 : decode cX7_goBack 30 = .ok (.ifCond .le 12, 3) := dk_get dk_d01_202 15 rfl
theorem dX7_goBack_33 : decode cX7_goBack 33 = .ok (.aload_n 0, 1) := dk_get dk_d01_202 16 rfl
theorem dX7_goBack_34 : decode cX7_goBack 34 = .ok (.getfield 17, 3) := dk_get dk_d01_202 17 rfl
theorem dX7_goBack_37 : decode cX7_goBack 37 = .ok (.iconst 1, 1) := dk_get dk_d01_202 18 rfl
theorem dX7_goBack_38 : decode cX7_goBack 38 = .ok (.isub, 1) := dk_get dk_d01_202 19 rfl
theorem dX7_goBack_39 : decode cX7_goBack 39 = .ok (.goto 4, 3) := dk_get dk_d01_202 20 rfl
theorem dX7_goBack_42 : decode cX7_goBack 42 = .ok (.iconst 5, 1) := dk_get dk_d01_202 21 rfl
theorem dX7_goBack_43 : decode cX7_goBack 43 = .ok (.putfield 17, 3) := dk_get dk_d01_202 22 rfl
theorem dX7_goBack_46 : decode cX7_goBack 46 = .ok (.aload_n 0, 1) := dk_get dk_d01_202 23 rfl
theorem dX7_goBack_47 : decode cX7_goBack 47 = .ok (.dup, 1) := dk_get dk_d01_202 24 rfl
theorem dk_d01_203 : dkc cX7_goBack [(48, .getfield 21, 3), (51, .iconst 1, 1), (52, .isub, 1), (53, .putfield 21, 3), (56, .aload_n 1, 1), (57, .aload_n 0, 1), (58, .getfield 11, 3), (61, .aload_n 0, 1), (62, .getfield 17, 3), (65, .aaload, 1), (66, .invokevirtual 25, 3), (69, .iconst 1, 1), (70, .ireturn, 1)] = true := by decide +kernel
theorem dX7_goBack_48 : decode cX7_goBack 48 = .ok (.getfield 21, 3) := dk_get dk_d01_203 0 rfl
theorem dX7_goBack_51 : decode cX7_goBack 51 = .ok (.iconst 1, 1) := dk_get dk_d01_203 1 rfl
theorem dX7_goBack_52 : decode cX7_goBack 52 = .ok (.isub, 1) := dk_get dk_d01_203 2 rfl
theorem dX7_goBack_53 : decode cX7_goBack 53 = .ok (.putfield 21, 3) := dk_get dk_d01_203 3 rfl
theorem dX7_goBack_56 : decode cX7_goBack 56 = .ok (.aload_n 1, 1) := dk_get dk_d01_203 4 rfl
theorem dX7_goBack_57 : decode cX7_goBack 57 = .ok (.aload_n 0, 1) := dk_get dk_d01_203 5 rfl
theorem dX7_goBack_58 : decode cX7_goBack 58 = .ok (.getfield 11, 3) := dk_get dk_d01_203 6 rfl
theorem dX7_goBack_61 : decode cX7_goBack 61 = .ok (.aload_n 0, 1) := dk_get dk_d01_203 7 rfl
theorem dX7_goBack_62 : decode cX7_goBack 62 = .ok (.getfield 17, 3) := dk_get dk_d01_203 8 rfl
theorem dX7_goBack_65 : decode cX7_goBack 65 = .ok (.aaload, 1) := dk_get dk_d01_203 9 rfl
theorem dX7_goBack_66 : decode cX7_goBack 66 = .ok (.invokevirtual 25, 3) := dk_get dk_d01_203 10 rfl
theorem dX7_goBack_69 : decode cX7_goBack 69 = .ok (.iconst 1, 1) := dk_get dk_d01_203 11 rfl
theorem dX7_goBack_70 : decode cX7_goBack 70 = .ok (.ireturn, 1) := dk_get dk_d01_203 12 rfl
theorem dk_d01_204 : dkc cX7_forget [(0, .aload_n 0, 1), (1, .iconst 0, 1), (2, .putfield 21, 3), (5, .return_, 1)] = true := by decide +kernel
theorem dX7_forget_0 : decode cX7_forget 0 = .ok (.aload_n 0, 1) := dk_get dk_d01_204 0 rfl
theorem dX7_forget_1 : decode cX7_forget 1 = .ok (.iconst 0, 1) := dk_get dk_d01_204 1 rfl
theorem dX7_forget_2 : decode cX7_forget 2 = .ok (.putfield 21, 3) := dk_get dk_d01_204 2 rfl
theorem dX7_forget_5 : decode cX7_forget 5 = .ok (.return_, 1) := dk_get dk_d01_204 3 rfl
theorem dk_d01_205 : dkc cX8_init [(0, .aload_n 0, 1), (1, .invokespecial 3, 3), (4, .aload_n 0, 1), (5, .aload_n 1, 1), (6, .putfield 9, 3), (9, .aload_n 0, 1), (10, .iload_n 2, 1), (11, .putfield 15, 3), (14, .aload_n 0, 1), (15, .aload_n 3, 1), (16, .putfield 19, 3), (19, .return_, 1)] = true := by decide +kernel
theorem dX8_init_0 : decode cX8_init 0 = .ok (.aload_n 0, 1) := dk_get dk_d01_205 0 rfl
theorem dX8_init_1 : decode cX8_init 1 = .ok (.invokespecial 3, 3) := dk_get dk_d01_205 1 rfl
theorem dX8_init_4 : decode cX8_init 4 = .ok (.aload_n 0, 1) := dk_get dk_d01_205 2 rfl
theorem dX8_init_5 : decode cX8_init 5 = .ok (.aload_n 1, 1) := dk_get dk_d01_205 3 rfl
theorem dX8_init_6 : decode cX8_init 6 = .ok (.putfield 9, 3) := dk_get dk_d01_205 4 rfl
theorem dX8_init_9 : decode cX8_init 9 = .ok (.aload_n 0, 1) := dk_get dk_d01_205 5 rfl
theorem dX8_init_10 : decode cX8_init 10 = .ok (.iload_n 2, 1) := dk_get dk_d01_205 6 rfl
theorem dX8_init_11 : decode cX8_init 11 = .ok (.putfield 15, 3) := dk_get dk_d01_205 7 rfl
theorem dX8_init_14 : decode cX8_init 14 = .ok (.aload_n 0, 1) := dk_get dk_d01_205 8 rfl
theorem dX8_init_15 : decode cX8_init 15 = .ok (.aload_n 3, 1) := dk_get dk_d01_205 9 rfl
theorem dX8_init_16 : decode cX8_init 16 = .ok (.putfield 19, 3) := dk_get dk_d01_205 10 rfl
theorem dX8_init_19 : decode cX8_init 19 = .ok (.return_, 1) := dk_get dk_d01_205 11 rfl
theorem dk_d01_206 : dkc cX8_number [(0, .iload_n 1, 1), (1, .ifCond .lt 37, 3), (4, .iload_n 1, 1), (5, .aload_n 0, 1), (6, .getfield 15, 3), (9, .if_icmp .ge 29, 3), (12, .iload_n 2, 1), (13, .ifCond .lt 25, 3), (16, .iload_n 2, 1), (17, .iconst 5, 1), (18, .if_icmp .ge 20, 3), (21, .iload_n 1, 1), (22, .iconst 5, 1), (23, .imul, 1), (24, .iload_n 2, 1), (25, .iadd, 1), (26, .aload_n 0, 1), (27, .getfield 9, 3), (30, .arraylength, 1), (31, .if_icmp .ge 7, 3), (34, .iconst 1, 1), (35, .goto 4, 3), (38, .iconst 0, 1), (39, .istore_n 3, 1), (40, .iload_n 3, 1)] = true := by decide +kernel
theorem dX8_number_0 : decode cX8_number 0 = .ok (.iload_n 1, 1) := dk_get dk_d01_206 0 rfl
theorem dX8_number_1 : decode cX8_number 1 = .ok (.ifCond .lt 37, 3) := dk_get dk_d01_206 1 rfl
theorem dX8_number_4 : decode cX8_number 4 = .ok (.iload_n 1, 1) := dk_get dk_d01_206 2 rfl
theorem dX8_number_5 : decode cX8_number 5 = .ok (.aload_n 0, 1) := dk_get dk_d01_206 3 rfl
theorem dX8_number_6 : decode cX8_number 6 = .ok (.getfield 15, 3) := dk_get dk_d01_206 4 rfl
theorem dX8_number_9 : decode cX8_number 9 = .ok (.if_icmp .ge 29, 3) := dk_get dk_d01_206 5 rfl
theorem dX8_number_12 : decode cX8_number 12 = .ok (.iload_n 2, 1) := dk_get dk_d01_206 6 rfl
theorem dX8_number_13 : decode cX8_number 13 = .ok (.ifCond .lt 25, 3) := dk_get dk_d01_206 7 rfl
theorem dX8_number_16 : decode cX8_number 16 = .ok (.iload_n 2, 1) := dk_get dk_d01_206 8 rfl
theorem dX8_number_17 : decode cX8_number 17 = .ok (.iconst 5, 1) := dk_get dk_d01_206 9 rfl
theorem dX8_number_18 : decode cX8_number 18 = .ok (.if_icmp .ge 20, 3) := dk_get dk_d01_206 10 rfl
theorem dX8_number_21 : decode cX8_number 21 = .ok (.iload_n 1, 1) := dk_get dk_d01_206 11 rfl
theorem dX8_number_22 : decode cX8_number 22 = .ok (.iconst 5, 1) := dk_get dk_d01_206 12 rfl
theorem dX8_number_23 : decode cX8_number 23 = .ok (.imul, 1) := dk_get dk_d01_206 13 rfl
theorem dX8_number_24 : decode cX8_number 24 = .ok (.iload_n 2, 1) := dk_get dk_d01_206 14 rfl
theorem dX8_number_25 : decode cX8_number 25 = .ok (.iadd, 1) := dk_get dk_d01_206 15 rfl
theorem dX8_number_26 : decode cX8_number 26 = .ok (.aload_n 0, 1) := dk_get dk_d01_206 16 rfl
theorem dX8_number_27 : decode cX8_number 27 = .ok (.getfield 9, 3) := dk_get dk_d01_206 17 rfl
theorem dX8_number_30 : decode cX8_number 30 = .ok (.arraylength, 1) := dk_get dk_d01_206 18 rfl
theorem dX8_number_31 : decode cX8_number 31 = .ok (.if_icmp .ge 7, 3) := dk_get dk_d01_206 19 rfl
theorem dX8_number_34 : decode cX8_number 34 = .ok (.iconst 1, 1) := dk_get dk_d01_206 20 rfl
theorem dX8_number_35 : decode cX8_number 35 = .ok (.goto 4, 3) := dk_get dk_d01_206 21 rfl
theorem dX8_number_38 : decode cX8_number 38 = .ok (.iconst 0, 1) := dk_get dk_d01_206 22 rfl
theorem dX8_number_39 : decode cX8_number 39 = .ok (.istore_n 3, 1) := dk_get dk_d01_206 23 rfl
theorem dX8_number_40 : decode cX8_number 40 = .ok (.iload_n 3, 1) := dk_get dk_d01_206 24 rfl
theorem dk_d01_207 : dkc cX8_number [(41, .ifCond .eq 16, 3), (44, .aload_n 0, 1), (45, .getfield 9, 3), (48, .iload_n 1, 1), (49, .iconst 5, 1), (50, .imul, 1), (51, .iload_n 2, 1), (52, .iadd, 1), (53, .iaload, 1), (54, .goto 4, 3), (57, .iconst 0, 1), (58, .ireturn, 1)] = true := by decide +kernel
theorem dX8_number_41 : decode cX8_number 41 = .ok (.ifCond .eq 16, 3) := dk_get dk_d01_207 0 rfl
theorem dX8_number_44 : decode cX8_number 44 = .ok (.aload_n 0, 1) := dk_get dk_d01_207 1 rfl
theorem dX8_number_45 : decode cX8_number 45 = .ok (.getfield 9, 3) := dk_get dk_d01_207 2 rfl
theorem dX8_number_48 : decode cX8_number 48 = .ok (.iload_n 1, 1) := dk_get dk_d01_207 3 rfl
theorem dX8_number_49 : decode cX8_number 49 = .ok (.iconst 5, 1) := dk_get dk_d01_207 4 rfl
theorem dX8_number_50 : decode cX8_number 50 = .ok (.imul, 1) := dk_get dk_d01_207 5 rfl
theorem dX8_number_51 : decode cX8_number 51 = .ok (.iload_n 2, 1) := dk_get dk_d01_207 6 rfl
theorem dX8_number_52 : decode cX8_number 52 = .ok (.iadd, 1) := dk_get dk_d01_207 7 rfl
theorem dX8_number_53 : decode cX8_number 53 = .ok (.iaload, 1) := dk_get dk_d01_207 8 rfl
theorem dX8_number_54 : decode cX8_number 54 = .ok (.goto 4, 3) := dk_get dk_d01_207 9 rfl
theorem dX8_number_57 : decode cX8_number 57 = .ok (.iconst 0, 1) := dk_get dk_d01_207 10 rfl
theorem dX8_number_58 : decode cX8_number 58 = .ok (.ireturn, 1) := dk_get dk_d01_207 11 rfl
theorem dk_d01_208 : dkc cX8_tells [(0, .iconst 0, 1), (1, .istore 5, 2), (3, .iload 5, 2), (5, .aload_n 0, 1), (6, .getfield 15, 3), (9, .if_icmp .ge 80, 3), (12, .aload_n 0, 1), (13, .iload 5, 2), (15, .iconst 0, 1), (16, .invokevirtual 22, 3), (19, .iload_n 1, 1), (20, .if_icmp .ne 63, 3), (23, .aload_n 0, 1), (24, .iload 5, 2), (26, .iconst 1, 1), (27, .invokevirtual 22, 3), (30, .istore 6, 2), (32, .aload_n 0, 1), (33, .iload 5, 2), (35, .iconst 2, 1), (36, .invokevirtual 22, 3), (39, .istore 7, 2), (41, .aload_n 0, 1), (42, .iload 5, 2), (44, .iconst 3, 1)] = true := by decide +kernel
theorem dX8_tells_0 : decode cX8_tells 0 = .ok (.iconst 0, 1) := dk_get dk_d01_208 0 rfl
theorem dX8_tells_1 : decode cX8_tells 1 = .ok (.istore 5, 2) := dk_get dk_d01_208 1 rfl
theorem dX8_tells_3 : decode cX8_tells 3 = .ok (.iload 5, 2) := dk_get dk_d01_208 2 rfl
theorem dX8_tells_5 : decode cX8_tells 5 = .ok (.aload_n 0, 1) := dk_get dk_d01_208 3 rfl
theorem dX8_tells_6 : decode cX8_tells 6 = .ok (.getfield 15, 3) := dk_get dk_d01_208 4 rfl
theorem dX8_tells_9 : decode cX8_tells 9 = .ok (.if_icmp .ge 80, 3) := dk_get dk_d01_208 5 rfl
theorem dX8_tells_12 : decode cX8_tells 12 = .ok (.aload_n 0, 1) := dk_get dk_d01_208 6 rfl
theorem dX8_tells_13 : decode cX8_tells 13 = .ok (.iload 5, 2) := dk_get dk_d01_208 7 rfl
theorem dX8_tells_15 : decode cX8_tells 15 = .ok (.iconst 0, 1) := dk_get dk_d01_208 8 rfl
theorem dX8_tells_16 : decode cX8_tells 16 = .ok (.invokevirtual 22, 3) := dk_get dk_d01_208 9 rfl
theorem dX8_tells_19 : decode cX8_tells 19 = .ok (.iload_n 1, 1) := dk_get dk_d01_208 10 rfl
theorem dX8_tells_20 : decode cX8_tells 20 = .ok (.if_icmp .ne 63, 3) := dk_get dk_d01_208 11 rfl
theorem dX8_tells_23 : decode cX8_tells 23 = .ok (.aload_n 0, 1) := dk_get dk_d01_208 12 rfl
theorem dX8_tells_24 : decode cX8_tells 24 = .ok (.iload 5, 2) := dk_get dk_d01_208 13 rfl
theorem dX8_tells_26 : decode cX8_tells 26 = .ok (.iconst 1, 1) := dk_get dk_d01_208 14 rfl
theorem dX8_tells_27 : decode cX8_tells 27 = .ok (.invokevirtual 22, 3) := dk_get dk_d01_208 15 rfl
theorem dX8_tells_30 : decode cX8_tells 30 = .ok (.istore 6, 2) := dk_get dk_d01_208 16 rfl
theorem dX8_tells_32 : decode cX8_tells 32 = .ok (.aload_n 0, 1) := dk_get dk_d01_208 17 rfl
theorem dX8_tells_33 : decode cX8_tells 33 = .ok (.iload 5, 2) := dk_get dk_d01_208 18 rfl
theorem dX8_tells_35 : decode cX8_tells 35 = .ok (.iconst 2, 1) := dk_get dk_d01_208 19 rfl
theorem dX8_tells_36 : decode cX8_tells 36 = .ok (.invokevirtual 22, 3) := dk_get dk_d01_208 20 rfl
theorem dX8_tells_39 : decode cX8_tells 39 = .ok (.istore 7, 2) := dk_get dk_d01_208 21 rfl
theorem dX8_tells_41 : decode cX8_tells 41 = .ok (.aload_n 0, 1) := dk_get dk_d01_208 22 rfl
theorem dX8_tells_42 : decode cX8_tells 42 = .ok (.iload 5, 2) := dk_get dk_d01_208 23 rfl
theorem dX8_tells_44 : decode cX8_tells 44 = .ok (.iconst 3, 1) := dk_get dk_d01_208 24 rfl
theorem dk_d01_209 : dkc cX8_tells [(45, .invokevirtual 22, 3), (48, .istore 8, 2), (50, .iload 7, 2), (52, .iload 8, 2), (54, .if_icmp .eq 17, 3), (57, .aload_n 0, 1), (58, .iload 7, 2), (60, .iload 8, 2), (62, .aload_n 3, 1), (63, .aload 4, 2), (65, .invokevirtual 26, 3), (68, .ifCond .eq 15, 3), (71, .aload_n 0, 1), (72, .iload 6, 2), (74, .iload 7, 2), (76, .aload_n 3, 1), (77, .aload 4, 2), (79, .invokevirtual 26, 3), (82, .ireturn, 1), (83, .iinc 5 1, 3), (86, .goto (-83), 3), (89, .iload_n 2, 1), (90, .ireturn, 1)] = true := by decide +kernel
theorem dX8_tells_45 : decode cX8_tells 45 = .ok (.invokevirtual 22, 3) := dk_get dk_d01_209 0 rfl
theorem dX8_tells_48 : decode cX8_tells 48 = .ok (.istore 8, 2) := dk_get dk_d01_209 1 rfl
theorem dX8_tells_50 : decode cX8_tells 50 = .ok (.iload 7, 2) := dk_get dk_d01_209 2 rfl
theorem dX8_tells_52 : decode cX8_tells 52 = .ok (.iload 8, 2) := dk_get dk_d01_209 3 rfl
theorem dX8_tells_54 : decode cX8_tells 54 = .ok (.if_icmp .eq 17, 3) := dk_get dk_d01_209 4 rfl
theorem dX8_tells_57 : decode cX8_tells 57 = .ok (.aload_n 0, 1) := dk_get dk_d01_209 5 rfl
theorem dX8_tells_58 : decode cX8_tells 58 = .ok (.iload 7, 2) := dk_get dk_d01_209 6 rfl
theorem dX8_tells_60 : decode cX8_tells 60 = .ok (.iload 8, 2) := dk_get dk_d01_209 7 rfl
theorem dX8_tells_62 : decode cX8_tells 62 = .ok (.aload_n 3, 1) := dk_get dk_d01_209 8 rfl
theorem dX8_tells_63 : decode cX8_tells 63 = .ok (.aload 4, 2) := dk_get dk_d01_209 9 rfl
theorem dX8_tells_65 : decode cX8_tells 65 = .ok (.invokevirtual 26, 3) := dk_get dk_d01_209 10 rfl
theorem dX8_tells_68 : decode cX8_tells 68 = .ok (.ifCond .eq 15, 3) := dk_get dk_d01_209 11 rfl
theorem dX8_tells_71 : decode cX8_tells 71 = .ok (.aload_n 0, 1) := dk_get dk_d01_209 12 rfl
theorem dX8_tells_72 : decode cX8_tells 72 = .ok (.iload 6, 2) := dk_get dk_d01_209 13 rfl
theorem dX8_tells_74 : decode cX8_tells 74 = .ok (.iload 7, 2) := dk_get dk_d01_209 14 rfl
theorem dX8_tells_76 : decode cX8_tells 76 = .ok (.aload_n 3, 1) := dk_get dk_d01_209 15 rfl
theorem dX8_tells_77 : decode cX8_tells 77 = .ok (.aload 4, 2) := dk_get dk_d01_209 16 rfl
theorem dX8_tells_79 : decode cX8_tells 79 = .ok (.invokevirtual 26, 3) := dk_get dk_d01_209 17 rfl
theorem dX8_tells_82 : decode cX8_tells 82 = .ok (.ireturn, 1) := dk_get dk_d01_209 18 rfl
theorem dX8_tells_83 : decode cX8_tells 83 = .ok (.iinc 5 1, 3) := dk_get dk_d01_209 19 rfl
theorem dX8_tells_86 : decode cX8_tells 86 = .ok (.goto (-83), 3) := dk_get dk_d01_209 20 rfl
theorem dX8_tells_89 : decode cX8_tells 89 = .ok (.iload_n 2, 1) := dk_get dk_d01_209 21 rfl
theorem dX8_tells_90 : decode cX8_tells 90 = .ok (.ireturn, 1) := dk_get dk_d01_209 22 rfl
theorem dk_d01_210 : dkc cX8_run [(0, .iconst 0, 1), (1, .istore 5, 2), (3, .iload_n 1, 1), (4, .iconst 0, 1), (5, .invokestatic 30, 3), (8, .istore 6, 2), (10, .iload 6, 2), (12, .iload_n 2, 1), (13, .if_icmp .ge 189, 3), (16, .iload 6, 2), (18, .aload_n 0, 1), (19, .getfield 19, 3), (22, .arraylength, 1), (23, .if_icmp .ge 179, 3), (26, .aload_n 0, 1), (27, .getfield 19, 3), (30, .iload 6, 2), (32, .iaload, 1), (33, .bipush 15, 2), (35, .iand, 1), (36, .istore 7, 2), (38, .aload_n 0, 1), (39, .getfield 19, 3), (42, .iload 6, 2), (44, .iaload, 1)] = true := by decide +kernel
theorem dX8_run_0 : decode cX8_run 0 = .ok (.iconst 0, 1) := dk_get dk_d01_210 0 rfl
theorem dX8_run_1 : decode cX8_run 1 = .ok (.istore 5, 2) := dk_get dk_d01_210 1 rfl
theorem dX8_run_3 : decode cX8_run 3 = .ok (.iload_n 1, 1) := dk_get dk_d01_210 2 rfl
theorem dX8_run_4 : decode cX8_run 4 = .ok (.iconst 0, 1) := dk_get dk_d01_210 3 rfl
theorem dX8_run_5 : decode cX8_run 5 = .ok (.invokestatic 30, 3) := dk_get dk_d01_210 4 rfl
theorem dX8_run_8 : decode cX8_run 8 = .ok (.istore 6, 2) := dk_get dk_d01_210 5 rfl
theorem dX8_run_10 : decode cX8_run 10 = .ok (.iload 6, 2) := dk_get dk_d01_210 6 rfl
theorem dX8_run_12 : decode cX8_run 12 = .ok (.iload_n 2, 1) := dk_get dk_d01_210 7 rfl
theorem dX8_run_13 : decode cX8_run 13 = .ok (.if_icmp .ge 189, 3) := dk_get dk_d01_210 8 rfl
theorem dX8_run_16 : decode cX8_run 16 = .ok (.iload 6, 2) := dk_get dk_d01_210 9 rfl
theorem dX8_run_18 : decode cX8_run 18 = .ok (.aload_n 0, 1) := dk_get dk_d01_210 10 rfl
theorem dX8_run_19 : decode cX8_run 19 = .ok (.getfield 19, 3) := dk_get dk_d01_210 11 rfl
theorem dX8_run_22 : decode cX8_run 22 = .ok (.arraylength, 1) := dk_get dk_d01_210 12 rfl
theorem dX8_run_23 : decode cX8_run 23 = .ok (.if_icmp .ge 179, 3) := dk_get dk_d01_210 13 rfl
theorem dX8_run_26 : decode cX8_run 26 = .ok (.aload_n 0, 1) := dk_get dk_d01_210 14 rfl
theorem dX8_run_27 : decode cX8_run 27 = .ok (.getfield 19, 3) := dk_get dk_d01_210 15 rfl
theorem dX8_run_30 : decode cX8_run 30 = .ok (.iload 6, 2) := dk_get dk_d01_210 16 rfl
theorem dX8_run_32 : decode cX8_run 32 = .ok (.iaload, 1) := dk_get dk_d01_210 17 rfl
theorem dX8_run_33 : decode cX8_run 33 = .ok (.bipush 15, 2) := dk_get dk_d01_210 18 rfl
theorem dX8_run_35 : decode cX8_run 35 = .ok (.iand, 1) := dk_get dk_d01_210 19 rfl
theorem dX8_run_36 : decode cX8_run 36 = .ok (.istore 7, 2) := dk_get dk_d01_210 20 rfl
theorem dX8_run_38 : decode cX8_run 38 = .ok (.aload_n 0, 1) := dk_get dk_d01_210 21 rfl
theorem dX8_run_39 : decode cX8_run 39 = .ok (.getfield 19, 3) := dk_get dk_d01_210 22 rfl
theorem dX8_run_42 : decode cX8_run 42 = .ok (.iload 6, 2) := dk_get dk_d01_210 23 rfl
theorem dX8_run_44 : decode cX8_run 44 = .ok (.iaload, 1) := dk_get dk_d01_210 24 rfl
theorem dk_d01_211 : dkc cX8_run [(45, .iconst 4, 1), (46, .ishr, 1), (47, .istore 8, 2)] = true := by decide +kernel
theorem dX8_run_45 : decode cX8_run 45 = .ok (.iconst 4, 1) := dk_get dk_d01_211 0 rfl
theorem dX8_run_46 : decode cX8_run 46 = .ok (.ishr, 1) := dk_get dk_d01_211 1 rfl
theorem dX8_run_47 : decode cX8_run 47 = .ok (.istore 8, 2) := dk_get dk_d01_211 2 rfl

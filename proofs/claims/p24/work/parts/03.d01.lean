theorem dX4_sums_87 : decode cX4_sums 87 = .ok (.iconst 0, 1) := by decide +kernel
theorem dX4_sums_88 : decode cX4_sums 88 = .ok (.istore 4, 2) := by decide +kernel
theorem dX4_sums_90 : decode cX4_sums 90 = .ok (.iconst 0, 1) := by decide +kernel
theorem dX4_sums_91 : decode cX4_sums 91 = .ok (.istore 5, 2) := by decide +kernel
theorem dX4_sums_93 : decode cX4_sums 93 = .ok (.iconst 0, 1) := by decide +kernel
theorem dX4_sums_94 : decode cX4_sums 94 = .ok (.istore 6, 2) := by decide +kernel
theorem dX4_sums_96 : decode cX4_sums 96 = .ok (.iload 6, 2) := by decide +kernel
theorem dX4_sums_98 : decode cX4_sums 98 = .ok (.iload_n 2, 1) := by decide +kernel
theorem dX4_sums_99 : decode cX4_sums 99 = .ok (.if_icmp .gt 37, 3) := by decide +kernel
theorem dX4_sums_102 : decode cX4_sums 102 = .ok (.iload 6, 2) := by decide +kernel
theorem dX4_sums_104 : decode cX4_sums 104 = .ok (.aload_n 0, 1) := by decide +kernel
theorem dX4_sums_105 : decode cX4_sums 105 = .ok (.getfield 9, 3) := by decide +kernel
theorem dX4_sums_108 : decode cX4_sums 108 = .ok (.arraylength, 1) := by decide +kernel
theorem dX4_sums_109 : decode cX4_sums 109 = .ok (.if_icmp .ge 27, 3) := by decide +kernel
theorem dX4_sums_112 : decode cX4_sums 112 = .ok (.aload_n 0, 1) := by decide +kernel
theorem dX4_sums_113 : decode cX4_sums 113 = .ok (.getfield 9, 3) := by decide +kernel
theorem dX4_sums_116 : decode cX4_sums 116 = .ok (.iload 6, 2) := by decide +kernel
theorem dX4_sums_118 : decode cX4_sums 118 = .ok (.iaload, 1) := by decide +kernel
theorem dX4_sums_119 : decode cX4_sums 119 = .ok (.iconst 1, 1) := by decide +kernel
theorem dX4_sums_120 : decode cX4_sums 120 = .ok (.if_icmp .ne 10, 3) := by decide +kernel
theorem dX4_sums_123 : decode cX4_sums 123 = .ok (.iinc 4 1, 3) := by decide +kernel
theorem dX4_sums_126 : decode cX4_sums 126 = .ok (.iload 6, 2) := by decide +kernel
theorem dX4_sums_128 : decode cX4_sums 128 = .ok (.istore 5, 2) := by decide +kernel
theorem dX4_sums_130 : decode cX4_sums 130 = .ok (.iinc 6 1, 3) := by decide +kernel
theorem dX4_sums_133 : decode cX4_sums 133 = .ok (.goto (-37), 3) := by decide +kernel
theorem dX4_sums_136 : decode cX4_sums 136 = .ok (.iload_n 3, 1) := by decide +kernel
theorem dX4_sums_137 : decode cX4_sums 137 = .ok (.ifCond .eq 8, 3) := by decide +kernel
theorem dX4_sums_140 : decode cX4_sums 140 = .ok (.iload 4, 2) := by decide +kernel
theorem dX4_sums_142 : decode cX4_sums 142 = .ok (.goto 5, 3) := by decide +kernel
theorem dX4_sums_145 : decode cX4_sums 145 = .ok (.iload 5, 2) := by decide +kernel
theorem dX4_sums_147 : decode cX4_sums 147 = .ok (.ireturn, 1) := by decide +kernel
theorem dX4_mostStacked_0 : decode cX4_mostStacked 0 = .ok (.iconst 1, 1) := by decide +kernel
theorem dX4_mostStacked_1 : decode cX4_mostStacked 1 = .ok (.aload_n 1, 1) := by decide +kernel
theorem dX4_mostStacked_2 : decode cX4_mostStacked 2 = .ok (.getfield 24, 3) := by decide +kernel
theorem dX4_mostStacked_5 : decode cX4_mostStacked 5 = .ok (.bipush 8, 2) := by decide +kernel
theorem dX4_mostStacked_7 : decode cX4_mostStacked 7 = .ok (.invokestatic 34, 3) := by decide +kernel
theorem dX4_mostStacked_10 : decode cX4_mostStacked 10 = .ok (.ishl, 1) := by decide +kernel
theorem dX4_mostStacked_11 : decode cX4_mostStacked 11 = .ok (.istore_n 2, 1) := by decide +kernel
theorem dX4_mostStacked_12 : decode cX4_mostStacked 12 = .ok (.iconst 0, 1) := by decide +kernel
theorem dX4_mostStacked_13 : decode cX4_mostStacked 13 = .ok (.istore_n 3, 1) := by decide +kernel
theorem dX4_mostStacked_14 : decode cX4_mostStacked 14 = .ok (.aload_n 0, 1) := by decide +kernel
theorem dX4_mostStacked_15 : decode cX4_mostStacked 15 = .ok (.getfield 9, 3) := by decide +kernel
theorem dX4_mostStacked_18 : decode cX4_mostStacked 18 = .ok (.iconst 0, 1) := by decide +kernel
theorem dX4_mostStacked_19 : decode cX4_mostStacked 19 = .ok (.iconst 0, 1) := by decide +kernel
theorem dX4_mostStacked_20 : decode cX4_mostStacked 20 = .ok (.iastore, 1) := by decide +kernel
theorem dX4_mostStacked_21 : decode cX4_mostStacked 21 = .ok (.iconst 1, 1) := by decide +kernel
theorem dX4_mostStacked_22 : decode cX4_mostStacked 22 = .ok (.istore 4, 2) := by decide +kernel
theorem dX4_mostStacked_24 : decode cX4_mostStacked 24 = .ok (.iload 4, 2) := by decide +kernel
theorem dX4_mostStacked_26 : decode cX4_mostStacked 26 = .ok (.iload_n 2, 1) := by decide +kernel
theorem dX4_mostStacked_27 : decode cX4_mostStacked 27 = .ok (.if_icmp .ge 138, 3) := by decide +kernel
theorem dX4_mostStacked_30 : decode cX4_mostStacked 30 = .ok (.aload_n 0, 1) := by decide +kernel
theorem dX4_mostStacked_31 : decode cX4_mostStacked 31 = .ok (.getfield 9, 3) := by decide +kernel
theorem dX4_mostStacked_34 : decode cX4_mostStacked 34 = .ok (.iload 4, 2) := by decide +kernel
theorem dX4_mostStacked_36 : decode cX4_mostStacked 36 = .ok (.iconst (-1), 1) := by decide +kernel
theorem dX4_mostStacked_37 : decode cX4_mostStacked 37 = .ok (.iastore, 1) := by decide +kernel
theorem dX4_mostStacked_38 : decode cX4_mostStacked 38 = .ok (.iconst 0, 1) := by decide +kernel
theorem dX4_mostStacked_39 : decode cX4_mostStacked 39 = .ok (.istore 5, 2) := by decide +kernel
theorem dX4_mostStacked_41 : decode cX4_mostStacked 41 = .ok (.iload 5, 2) := by decide +kernel
theorem dX4_mostStacked_43 : decode cX4_mostStacked 43 = .ok (.aload_n 1, 1) := by decide +kernel
theorem dX4_mostStacked_44 : decode cX4_mostStacked 44 = .ok (.getfield 24, 3) := by decide +kernel
theorem dX4_mostStacked_47 : decode cX4_mostStacked 47 = .ok (.if_icmp .ge 91, 3) := by decide +kernel
theorem dX4_mostStacked_50 : decode cX4_mostStacked 50 = .ok (.iload 4, 2) := by decide +kernel
theorem dX4_mostStacked_52 : decode cX4_mostStacked 52 = .ok (.iconst 1, 1) := by decide +kernel
theorem dX4_mostStacked_53 : decode cX4_mostStacked 53 = .ok (.iload 5, 2) := by decide +kernel
theorem dX4_mostStacked_55 : decode cX4_mostStacked 55 = .ok (.ishl, 1) := by decide +kernel
theorem dX4_mostStacked_56 : decode cX4_mostStacked 56 = .ok (.iconst (-1), 1) := by decide +kernel
theorem dX4_mostStacked_57 : decode cX4_mostStacked 57 = .ok (.ixor, 1) := by decide +kernel
theorem dX4_mostStacked_58 : decode cX4_mostStacked 58 = .ok (.iand, 1) := by decide +kernel
theorem dX4_mostStacked_59 : decode cX4_mostStacked 59 = .ok (.istore 6, 2) := by decide +kernel
theorem dX4_mostStacked_61 : decode cX4_mostStacked 61 = .ok (.aload_n 1, 1) := by decide +kernel
theorem dX4_mostStacked_62 : decode cX4_mostStacked 62 = .ok (.iload 5, 2) := by decide +kernel
theorem dX4_mostStacked_64 : decode cX4_mostStacked 64 = .ok (.invokevirtual 30, 3) := by decide +kernel
theorem dX4_mostStacked_67 : decode cX4_mostStacked 67 = .ok (.sipush 256, 3) := by decide +kernel
theorem dX4_mostStacked_70 : decode cX4_mostStacked 70 = .ok (.idiv, 1) := by decide +kernel
theorem dX4_mostStacked_71 : decode cX4_mostStacked 71 = .ok (.istore 7, 2) := by decide +kernel
theorem dX4_mostStacked_73 : decode cX4_mostStacked 73 = .ok (.aload_n 1, 1) := by decide +kernel
theorem dX4_mostStacked_74 : decode cX4_mostStacked 74 = .ok (.iload 5, 2) := by decide +kernel
theorem dX4_mostStacked_76 : decode cX4_mostStacked 76 = .ok (.invokevirtual 30, 3) := by decide +kernel
theorem dX4_mostStacked_79 : decode cX4_mostStacked 79 = .ok (.sipush 256, 3) := by decide +kernel
theorem dX4_mostStacked_82 : decode cX4_mostStacked 82 = .ok (.irem, 1) := by decide +kernel
theorem dX4_mostStacked_83 : decode cX4_mostStacked 83 = .ok (.istore 8, 2) := by decide +kernel
theorem dX4_mostStacked_85 : decode cX4_mostStacked 85 = .ok (.iload 6, 2) := by decide +kernel
theorem dX4_mostStacked_87 : decode cX4_mostStacked 87 = .ok (.iload 4, 2) := by decide +kernel
theorem dX4_mostStacked_89 : decode cX4_mostStacked 89 = .ok (.if_icmp .ge 43, 3) := by decide +kernel
theorem dX4_mostStacked_92 : decode cX4_mostStacked 92 = .ok (.aload_n 0, 1) := by decide +kernel
theorem dX4_mostStacked_93 : decode cX4_mostStacked 93 = .ok (.getfield 9, 3) := by decide +kernel
theorem dX4_mostStacked_96 : decode cX4_mostStacked 96 = .ok (.iload 6, 2) := by decide +kernel
theorem dX4_mostStacked_98 : decode cX4_mostStacked 98 = .ok (.iaload, 1) := by decide +kernel
theorem dX4_mostStacked_99 : decode cX4_mostStacked 99 = .ok (.iconst (-1), 1) := by decide +kernel
theorem dX4_mostStacked_100 : decode cX4_mostStacked 100 = .ok (.if_icmp .eq 32, 3) := by decide +kernel
theorem dX4_mostStacked_103 : decode cX4_mostStacked 103 = .ok (.aload_n 0, 1) := by decide +kernel
theorem dX4_mostStacked_104 : decode cX4_mostStacked 104 = .ok (.getfield 9, 3) := by decide +kernel
theorem dX4_mostStacked_107 : decode cX4_mostStacked 107 = .ok (.iload 6, 2) := by decide +kernel
theorem dX4_mostStacked_109 : decode cX4_mostStacked 109 = .ok (.iaload, 1) := by decide +kernel
theorem dX4_mostStacked_110 : decode cX4_mostStacked 110 = .ok (.iload 8, 2) := by decide +kernel
theorem dX4_mostStacked_112 : decode cX4_mostStacked 112 = .ok (.if_icmp .gt 20, 3) := by decide +kernel
theorem dX4_mostStacked_115 : decode cX4_mostStacked 115 = .ok (.aload_n 0, 1) := by decide +kernel
theorem dX4_mostStacked_116 : decode cX4_mostStacked 116 = .ok (.getfield 9, 3) := by decide +kernel
theorem dX4_mostStacked_119 : decode cX4_mostStacked 119 = .ok (.iload 4, 2) := by decide +kernel
theorem dX4_mostStacked_121 : decode cX4_mostStacked 121 = .ok (.aload_n 0, 1) := by decide +kernel
theorem dX4_mostStacked_122 : decode cX4_mostStacked 122 = .ok (.getfield 9, 3) := by decide +kernel
theorem dX4_mostStacked_125 : decode cX4_mostStacked 125 = .ok (.iload 6, 2) := by decide +kernel
theorem dX4_mostStacked_127 : decode cX4_mostStacked 127 = .ok (.iaload, 1) := by decide +kernel
theorem dX4_mostStacked_128 : decode cX4_mostStacked 128 = .ok (.iload 7, 2) := by decide +kernel
theorem dX4_mostStacked_130 : decode cX4_mostStacked 130 = .ok (.iadd, 1) := by decide +kernel
theorem dX4_mostStacked_131 : decode cX4_mostStacked 131 = .ok (.iastore, 1) := by decide +kernel
theorem dX4_mostStacked_132 : decode cX4_mostStacked 132 = .ok (.iinc 5 1, 3) := by decide +kernel
theorem dX4_mostStacked_135 : decode cX4_mostStacked 135 = .ok (.goto (-94), 3) := by decide +kernel
theorem dX4_mostStacked_138 : decode cX4_mostStacked 138 = .ok (.aload_n 0, 1) := by decide +kernel
theorem dX4_mostStacked_139 : decode cX4_mostStacked 139 = .ok (.getfield 9, 3) := by decide +kernel
theorem dX4_mostStacked_142 : decode cX4_mostStacked 142 = .ok (.iload 4, 2) := by decide +kernel
theorem dX4_mostStacked_144 : decode cX4_mostStacked 144 = .ok (.iaload, 1) := by decide +kernel
theorem dX4_mostStacked_145 : decode cX4_mostStacked 145 = .ok (.iconst (-1), 1) := by decide +kernel
theorem dX4_mostStacked_146 : decode cX4_mostStacked 146 = .ok (.if_icmp .eq 13, 3) := by decide +kernel
theorem dX4_mostStacked_149 : decode cX4_mostStacked 149 = .ok (.iload_n 3, 1) := by decide +kernel
theorem dX4_mostStacked_150 : decode cX4_mostStacked 150 = .ok (.iload 4, 2) := by decide +kernel
theorem dX4_mostStacked_152 : decode cX4_mostStacked 152 = .ok (.invokestatic 58, 3) := by decide +kernel
theorem dX4_mostStacked_155 : decode cX4_mostStacked 155 = .ok (.invokestatic 55, 3) := by decide +kernel
theorem dX4_mostStacked_158 : decode cX4_mostStacked 158 = .ok (.istore_n 3, 1) := by decide +kernel
theorem dX4_mostStacked_159 : decode cX4_mostStacked 159 = .ok (.iinc 4 1, 3) := by decide +kernel
theorem dX4_mostStacked_162 : decode cX4_mostStacked 162 = .ok (.goto (-138), 3) := by decide +kernel
theorem dX4_mostStacked_165 : decode cX4_mostStacked 165 = .ok (.iload_n 3, 1) := by decide +kernel
theorem dX4_mostStacked_166 : decode cX4_mostStacked 166 = .ok (.ireturn, 1) := by decide +kernel
theorem dX4_shown_0 : decode cX4_shown 0 = .ok (.iconst (-1), 1) := by decide +kernel
theorem dX4_shown_1 : decode cX4_shown 1 = .ok (.istore 4, 2) := by decide +kernel
theorem dX4_shown_3 : decode cX4_shown 3 = .ok (.iconst 0, 1) := by decide +kernel
theorem dX4_shown_4 : decode cX4_shown 4 = .ok (.istore 5, 2) := by decide +kernel
theorem dX4_shown_6 : decode cX4_shown 6 = .ok (.iconst (-1), 1) := by decide +kernel
theorem dX4_shown_7 : decode cX4_shown 7 = .ok (.istore 6, 2) := by decide +kernel
theorem dX4_shown_9 : decode cX4_shown 9 = .ok (.iconst 0, 1) := by decide +kernel
theorem dX4_shown_10 : decode cX4_shown 10 = .ok (.istore 7, 2) := by decide +kernel
theorem dX4_shown_12 : decode cX4_shown 12 = .ok (.iload 7, 2) := by decide +kernel
theorem dX4_shown_14 : decode cX4_shown 14 = .ok (.aload_n 1, 1) := by decide +kernel
theorem dX4_shown_15 : decode cX4_shown 15 = .ok (.getfield 24, 3) := by decide +kernel
theorem dX4_shown_18 : decode cX4_shown 18 = .ok (.if_icmp .ge 41, 3) := by decide +kernel
theorem dX4_shown_21 : decode cX4_shown 21 = .ok (.aload_n 1, 1) := by decide +kernel
theorem dX4_shown_22 : decode cX4_shown 22 = .ok (.iload 7, 2) := by decide +kernel
theorem dX4_shown_24 : decode cX4_shown 24 = .ok (.invokevirtual 30, 3) := by decide +kernel
theorem dX4_shown_27 : decode cX4_shown 27 = .ok (.istore 8, 2) := by decide +kernel
theorem dX4_shown_29 : decode cX4_shown 29 = .ok (.iload 8, 2) := by decide +kernel
theorem dX4_shown_31 : decode cX4_shown 31 = .ok (.iload 4, 2) := by decide +kernel
theorem dX4_shown_33 : decode cX4_shown 33 = .ok (.if_icmp .le 20, 3) := by decide +kernel
theorem dX4_shown_36 : decode cX4_shown 36 = .ok (.iload 8, 2) := by decide +kernel
theorem dX4_shown_38 : decode cX4_shown 38 = .ok (.istore 4, 2) := by decide +kernel
theorem dX4_shown_40 : decode cX4_shown 40 = .ok (.iload 8, 2) := by decide +kernel
theorem dX4_shown_42 : decode cX4_shown 42 = .ok (.iload_n 2, 1) := by decide +kernel
theorem dX4_shown_43 : decode cX4_shown 43 = .ok (.if_icmp .gt 10, 3) := by decide +kernel
theorem dX4_shown_46 : decode cX4_shown 46 = .ok (.iinc 5 1, 3) := by decide +kernel
theorem dX4_shown_49 : decode cX4_shown 49 = .ok (.iload 7, 2) := by decide +kernel
theorem dX4_shown_51 : decode cX4_shown 51 = .ok (.istore 6, 2) := by decide +kernel
theorem dX4_shown_53 : decode cX4_shown 53 = .ok (.iinc 7 1, 3) := by decide +kernel
theorem dX4_shown_56 : decode cX4_shown 56 = .ok (.goto (-44), 3) := by decide +kernel
theorem dX4_shown_59 : decode cX4_shown 59 = .ok (.iload_n 3, 1) := by decide +kernel
theorem dX4_shown_60 : decode cX4_shown 60 = .ok (.ifCond .eq 8, 3) := by decide +kernel
theorem dX4_shown_63 : decode cX4_shown 63 = .ok (.iload 5, 2) := by decide +kernel
theorem dX4_shown_65 : decode cX4_shown 65 = .ok (.goto 5, 3) := by decide +kernel
theorem dX4_shown_68 : decode cX4_shown 68 = .ok (.iload 6, 2) := by decide +kernel
theorem dX4_shown_70 : decode cX4_shown 70 = .ok (.ireturn, 1) := by decide +kernel
theorem dX4_together_0 : decode cX4_together 0 = .ok (.iconst (-1), 1) := by decide +kernel
theorem dX4_together_1 : decode cX4_together 1 = .ok (.istore_n 3, 1) := by decide +kernel
theorem dX4_together_2 : decode cX4_together 2 = .ok (.iconst 0, 1) := by decide +kernel
theorem dX4_together_3 : decode cX4_together 3 = .ok (.istore 4, 2) := by decide +kernel
theorem dX4_together_5 : decode cX4_together 5 = .ok (.iconst 0, 1) := by decide +kernel
theorem dX4_together_6 : decode cX4_together 6 = .ok (.istore 5, 2) := by decide +kernel
theorem dX4_together_8 : decode cX4_together 8 = .ok (.iconst 0, 1) := by decide +kernel
theorem dX4_together_9 : decode cX4_together 9 = .ok (.istore 6, 2) := by decide +kernel
theorem dX4_together_11 : decode cX4_together 11 = .ok (.iload 6, 2) := by decide +kernel
theorem dX4_together_13 : decode cX4_together 13 = .ok (.sipush 256, 3) := by decide +kernel
theorem dX4_together_16 : decode cX4_together 16 = .ok (.if_icmp .ge 40, 3) := by decide +kernel
theorem dX4_together_19 : decode cX4_together 19 = .ok (.aload_n 1, 1) := by decide +kernel
theorem dX4_together_20 : decode cX4_together 20 = .ok (.iload 6, 2) := by decide +kernel
theorem dX4_together_22 : decode cX4_together 22 = .ok (.invokestatic 63, 3) := by decide +kernel
theorem dX4_together_25 : decode cX4_together 25 = .ok (.ifCond .eq 25, 3) := by decide +kernel
theorem dX4_together_28 : decode cX4_together 28 = .ok (.iinc 5 1, 3) := by decide +kernel
theorem dX4_together_31 : decode cX4_together 31 = .ok (.iload 6, 2) := by decide +kernel
theorem dX4_together_33 : decode cX4_together 33 = .ok (.invokestatic 58, 3) := by decide +kernel
theorem dX4_together_36 : decode cX4_together 36 = .ok (.iload_n 3, 1) := by decide +kernel
theorem dX4_together_37 : decode cX4_together 37 = .ok (.if_icmp .le 13, 3) := by decide +kernel
theorem dX4_together_40 : decode cX4_together 40 = .ok (.iload 6, 2) := by decide +kernel
theorem dX4_together_42 : decode cX4_together 42 = .ok (.invokestatic 58, 3) := by decide +kernel
theorem dX4_together_45 : decode cX4_together 45 = .ok (.istore_n 3, 1) := by decide +kernel
theorem dX4_together_46 : decode cX4_together 46 = .ok (.iload 6, 2) := by decide +kernel
theorem dX4_together_48 : decode cX4_together 48 = .ok (.istore 4, 2) := by decide +kernel
theorem dX4_together_50 : decode cX4_together 50 = .ok (.iinc 6 1, 3) := by decide +kernel
theorem dX4_together_53 : decode cX4_together 53 = .ok (.goto (-42), 3) := by decide +kernel
theorem dX4_together_56 : decode cX4_together 56 = .ok (.iload_n 2, 1) := by decide +kernel
theorem dX4_together_57 : decode cX4_together 57 = .ok (.ifCond .ne 5, 3) := by decide +kernel
theorem dX4_together_60 : decode cX4_together 60 = .ok (.iload_n 3, 1) := by decide +kernel
theorem dX4_together_61 : decode cX4_together 61 = .ok (.ireturn, 1) := by decide +kernel
theorem dX4_together_62 : decode cX4_together 62 = .ok (.iload_n 2, 1) := by decide +kernel
theorem dX4_together_63 : decode cX4_together 63 = .ok (.iconst 1, 1) := by decide +kernel
theorem dX4_together_64 : decode cX4_together 64 = .ok (.if_icmp .ne 8, 3) := by decide +kernel
theorem dX4_together_67 : decode cX4_together 67 = .ok (.iload 4, 2) := by decide +kernel
theorem dX4_together_69 : decode cX4_together 69 = .ok (.goto 5, 3) := by decide +kernel
theorem dX4_together_72 : decode cX4_together 72 = .ok (.iload 5, 2) := by decide +kernel
theorem dX4_together_74 : decode cX4_together 74 = .ok (.ireturn, 1) := by decide +kernel
theorem dX4_goTogether_0 : decode cX4_goTogether 0 = .ok (.iconst 0, 1) := by decide +kernel
theorem dX4_goTogether_1 : decode cX4_goTogether 1 = .ok (.istore_n 2, 1) := by decide +kernel
theorem dX4_goTogether_2 : decode cX4_goTogether 2 = .ok (.iload_n 2, 1) := by decide +kernel
theorem dX4_goTogether_3 : decode cX4_goTogether 3 = .ok (.aload_n 0, 1) := by decide +kernel
theorem dX4_goTogether_4 : decode cX4_goTogether 4 = .ok (.getfield 24, 3) := by decide +kernel
theorem dX4_goTogether_7 : decode cX4_goTogether 7 = .ok (.if_icmp .ge 42, 3) := by decide +kernel
theorem dX4_goTogether_10 : decode cX4_goTogether 10 = .ok (.iconst 1, 1) := by decide +kernel
theorem dX4_goTogether_11 : decode cX4_goTogether 11 = .ok (.aload_n 0, 1) := by decide +kernel
theorem dX4_goTogether_12 : decode cX4_goTogether 12 = .ok (.iload_n 2, 1) := by decide +kernel
theorem dX4_goTogether_13 : decode cX4_goTogether 13 = .ok (.invokevirtual 30, 3) := by decide +kernel
theorem dX4_goTogether_16 : decode cX4_goTogether 16 = .ok (.sipush 256, 3) := by decide +kernel
theorem dX4_goTogether_19 : decode cX4_goTogether 19 = .ok (.idiv, 1) := by decide +kernel
theorem dX4_goTogether_20 : decode cX4_goTogether 20 = .ok (.ishl, 1) := by decide +kernel
theorem dX4_goTogether_21 : decode cX4_goTogether 21 = .ok (.iconst 1, 1) := by decide +kernel
theorem dX4_goTogether_22 : decode cX4_goTogether 22 = .ok (.aload_n 0, 1) := by decide +kernel
theorem dX4_goTogether_23 : decode cX4_goTogether 23 = .ok (.iload_n 2, 1) := by decide +kernel
theorem dX4_goTogether_24 : decode cX4_goTogether 24 = .ok (.invokevirtual 30, 3) := by decide +kernel
theorem dX4_goTogether_27 : decode cX4_goTogether 27 = .ok (.sipush 256, 3) := by decide +kernel
theorem dX4_goTogether_30 : decode cX4_goTogether 30 = .ok (.irem, 1) := by decide +kernel
theorem dX4_goTogether_31 : decode cX4_goTogether 31 = .ok (.ishl, 1) := by decide +kernel
theorem dX4_goTogether_32 : decode cX4_goTogether 32 = .ok (.ior, 1) := by decide +kernel
theorem dX4_goTogether_33 : decode cX4_goTogether 33 = .ok (.istore_n 3, 1) := by decide +kernel
theorem dX4_goTogether_34 : decode cX4_goTogether 34 = .ok (.iload_n 1, 1) := by decide +kernel
theorem dX4_goTogether_35 : decode cX4_goTogether 35 = .ok (.iload_n 3, 1) := by decide +kernel
theorem dX4_goTogether_36 : decode cX4_goTogether 36 = .ok (.iand, 1) := by decide +kernel
theorem dX4_goTogether_37 : decode cX4_goTogether 37 = .ok (.iload_n 3, 1) := by decide +kernel
theorem dX4_goTogether_38 : decode cX4_goTogether 38 = .ok (.if_icmp .ne 5, 3) := by decide +kernel
theorem dX4_goTogether_41 : decode cX4_goTogether 41 = .ok (.iconst 0, 1) := by decide +kernel
theorem dX4_goTogether_42 : decode cX4_goTogether 42 = .ok (.ireturn, 1) := by decide +kernel
theorem dX4_goTogether_43 : decode cX4_goTogether 43 = .ok (.iinc 2 1, 3) := by decide +kernel
theorem dX4_goTogether_46 : decode cX4_goTogether 46 = .ok (.goto (-44), 3) := by decide +kernel
theorem dX4_goTogether_49 : decode cX4_goTogether 49 = .ok (.iconst 1, 1) := by decide +kernel
theorem dX4_goTogether_50 : decode cX4_goTogether 50 = .ok (.ireturn, 1) := by decide +kernel
theorem dX4_rowsOfAll_0 : decode cX4_rowsOfAll 0 = .ok (.aload_n 0, 1) := by decide +kernel
theorem dX4_rowsOfAll_1 : decode cX4_rowsOfAll 1 = .ok (.getfield 15, 3) := by decide +kernel
theorem dX4_rowsOfAll_4 : decode cX4_rowsOfAll 4 = .ok (.iconst 0, 1) := by decide +kernel
theorem dX4_rowsOfAll_5 : decode cX4_rowsOfAll 5 = .ok (.invokestatic 18, 3) := by decide +kernel
theorem dX4_rowsOfAll_8 : decode cX4_rowsOfAll 8 = .ok (.iconst 0, 1) := by decide +kernel
theorem dX4_rowsOfAll_9 : decode cX4_rowsOfAll 9 = .ok (.istore_n 2, 1) := by decide +kernel
theorem dX4_rowsOfAll_10 : decode cX4_rowsOfAll 10 = .ok (.iload_n 2, 1) := by decide +kernel
theorem dX4_rowsOfAll_11 : decode cX4_rowsOfAll 11 = .ok (.aload_n 1, 1) := by decide +kernel
theorem dX4_rowsOfAll_12 : decode cX4_rowsOfAll 12 = .ok (.getfield 24, 3) := by decide +kernel
theorem dX4_rowsOfAll_15 : decode cX4_rowsOfAll 15 = .ok (.if_icmp .ge 49, 3) := by decide +kernel
theorem dX4_rowsOfAll_18 : decode cX4_rowsOfAll 18 = .ok (.aload_n 1, 1) := by decide +kernel
theorem dX4_rowsOfAll_19 : decode cX4_rowsOfAll 19 = .ok (.iload_n 2, 1) := by decide +kernel
theorem dX4_rowsOfAll_20 : decode cX4_rowsOfAll 20 = .ok (.invokevirtual 30, 3) := by decide +kernel
theorem dX4_rowsOfAll_23 : decode cX4_rowsOfAll 23 = .ok (.sipush 256, 3) := by decide +kernel
theorem dX4_rowsOfAll_26 : decode cX4_rowsOfAll 26 = .ok (.irem, 1) := by decide +kernel
theorem dX4_rowsOfAll_27 : decode cX4_rowsOfAll 27 = .ok (.istore_n 3, 1) := by decide +kernel
theorem dX4_rowsOfAll_28 : decode cX4_rowsOfAll 28 = .ok (.iload_n 3, 1) := by decide +kernel
theorem dX4_rowsOfAll_29 : decode cX4_rowsOfAll 29 = .ok (.ifCond .lt 29, 3) := by decide +kernel
theorem dX4_rowsOfAll_32 : decode cX4_rowsOfAll 32 = .ok (.iload_n 3, 1) := by decide +kernel
theorem dX4_rowsOfAll_33 : decode cX4_rowsOfAll 33 = .ok (.bipush 8, 2) := by decide +kernel
theorem dX4_rowsOfAll_35 : decode cX4_rowsOfAll 35 = .ok (.if_icmp .ge 23, 3) := by decide +kernel
theorem dX4_rowsOfAll_38 : decode cX4_rowsOfAll 38 = .ok (.aload_n 0, 1) := by decide +kernel
theorem dX4_rowsOfAll_39 : decode cX4_rowsOfAll 39 = .ok (.getfield 15, 3) := by decide +kernel
theorem dX4_rowsOfAll_42 : decode cX4_rowsOfAll 42 = .ok (.iload_n 3, 1) := by decide +kernel
theorem dX4_rowsOfAll_43 : decode cX4_rowsOfAll 43 = .ok (.dup2, 1) := by decide +kernel
theorem dX4_rowsOfAll_44 : decode cX4_rowsOfAll 44 = .ok (.iaload, 1) := by decide +kernel
theorem dX4_rowsOfAll_45 : decode cX4_rowsOfAll 45 = .ok (.iconst 1, 1) := by decide +kernel
theorem dX4_rowsOfAll_46 : decode cX4_rowsOfAll 46 = .ok (.aload_n 1, 1) := by decide +kernel
theorem dX4_rowsOfAll_47 : decode cX4_rowsOfAll 47 = .ok (.iload_n 2, 1) := by decide +kernel
theorem dX4_rowsOfAll_48 : decode cX4_rowsOfAll 48 = .ok (.invokevirtual 30, 3) := by decide +kernel
theorem dX4_rowsOfAll_51 : decode cX4_rowsOfAll 51 = .ok (.sipush 256, 3) := by decide +kernel
theorem dX4_rowsOfAll_54 : decode cX4_rowsOfAll 54 = .ok (.idiv, 1) := by decide +kernel
theorem dX4_rowsOfAll_55 : decode cX4_rowsOfAll 55 = .ok (.ishl, 1) := by decide +kernel
theorem dX4_rowsOfAll_56 : decode cX4_rowsOfAll 56 = .ok (.ior, 1) := by decide +kernel
theorem dX4_rowsOfAll_57 : decode cX4_rowsOfAll 57 = .ok (.iastore, 1) := by decide +kernel
theorem dX4_rowsOfAll_58 : decode cX4_rowsOfAll 58 = .ok (.iinc 2 1, 3) := by decide +kernel
theorem dX4_rowsOfAll_61 : decode cX4_rowsOfAll 61 = .ok (.goto (-51), 3) := by decide +kernel
theorem dX4_rowsOfAll_64 : decode cX4_rowsOfAll 64 = .ok (.aload_n 0, 1) := by decide +kernel
theorem dX4_rowsOfAll_65 : decode cX4_rowsOfAll 65 = .ok (.getfield 9, 3) := by decide +kernel
theorem dX4_rowsOfAll_68 : decode cX4_rowsOfAll 68 = .ok (.iconst 0, 1) := by decide +kernel
theorem dX4_rowsOfAll_69 : decode cX4_rowsOfAll 69 = .ok (.invokestatic 18, 3) := by decide +kernel
theorem dX4_rowsOfAll_72 : decode cX4_rowsOfAll 72 = .ok (.aload_n 0, 1) := by decide +kernel
theorem dX4_rowsOfAll_73 : decode cX4_rowsOfAll 73 = .ok (.getfield 9, 3) := by decide +kernel
theorem dX4_rowsOfAll_76 : decode cX4_rowsOfAll 76 = .ok (.iconst 0, 1) := by decide +kernel
theorem dX4_rowsOfAll_77 : decode cX4_rowsOfAll 77 = .ok (.iconst 1, 1) := by decide +kernel
theorem dX4_rowsOfAll_78 : decode cX4_rowsOfAll 78 = .ok (.iastore, 1) := by decide +kernel
theorem dX4_rowsOfAll_79 : decode cX4_rowsOfAll 79 = .ok (.sipush 255, 3) := by decide +kernel
theorem dX4_rowsOfAll_82 : decode cX4_rowsOfAll 82 = .ok (.istore_n 2, 1) := by decide +kernel
theorem dX4_rowsOfAll_83 : decode cX4_rowsOfAll 83 = .ok (.iconst 0, 1) := by decide +kernel
theorem dX4_rowsOfAll_84 : decode cX4_rowsOfAll 84 = .ok (.istore_n 3, 1) := by decide +kernel
theorem dX4_rowsOfAll_85 : decode cX4_rowsOfAll 85 = .ok (.iload_n 3, 1) := by decide +kernel
theorem dX4_rowsOfAll_86 : decode cX4_rowsOfAll 86 = .ok (.iload_n 2, 1) := by decide +kernel
theorem dX4_rowsOfAll_87 : decode cX4_rowsOfAll 87 = .ok (.if_icmp .ge 68, 3) := by decide +kernel
theorem dX4_rowsOfAll_90 : decode cX4_rowsOfAll 90 = .ok (.iconst 0, 1) := by decide +kernel
theorem dX4_rowsOfAll_91 : decode cX4_rowsOfAll 91 = .ok (.istore 4, 2) := by decide +kernel
theorem dX4_rowsOfAll_93 : decode cX4_rowsOfAll 93 = .ok (.iload 4, 2) := by decide +kernel
theorem dX4_rowsOfAll_95 : decode cX4_rowsOfAll 95 = .ok (.bipush 8, 2) := by decide +kernel
theorem dX4_rowsOfAll_97 : decode cX4_rowsOfAll 97 = .ok (.if_icmp .ge 52, 3) := by decide +kernel
theorem dX4_rowsOfAll_100 : decode cX4_rowsOfAll 100 = .ok (.iload_n 3, 1) := by decide +kernel
theorem dX4_rowsOfAll_101 : decode cX4_rowsOfAll 101 = .ok (.iload 4, 2) := by decide +kernel
theorem dX4_rowsOfAll_103 : decode cX4_rowsOfAll 103 = .ok (.ishr, 1) := by decide +kernel
theorem dX4_rowsOfAll_104 : decode cX4_rowsOfAll 104 = .ok (.iconst 1, 1) := by decide +kernel
theorem dX4_rowsOfAll_105 : decode cX4_rowsOfAll 105 = .ok (.iand, 1) := by decide +kernel
theorem dX4_rowsOfAll_106 : decode cX4_rowsOfAll 106 = .ok (.ifCond .ne 37, 3) := by decide +kernel
theorem dX4_rowsOfAll_109 : decode cX4_rowsOfAll 109 = .ok (.aload_n 0, 1) := by decide +kernel
theorem dX4_rowsOfAll_110 : decode cX4_rowsOfAll 110 = .ok (.getfield 15, 3) := by decide +kernel
theorem dX4_rowsOfAll_113 : decode cX4_rowsOfAll 113 = .ok (.iload 4, 2) := by decide +kernel
theorem dX4_rowsOfAll_115 : decode cX4_rowsOfAll 115 = .ok (.iaload, 1) := by decide +kernel
theorem dX4_rowsOfAll_116 : decode cX4_rowsOfAll 116 = .ok (.iload_n 3, 1) := by decide +kernel
theorem dX4_rowsOfAll_117 : decode cX4_rowsOfAll 117 = .ok (.iconst (-1), 1) := by decide +kernel
theorem dX4_rowsOfAll_118 : decode cX4_rowsOfAll 118 = .ok (.ixor, 1) := by decide +kernel
theorem dX4_rowsOfAll_119 : decode cX4_rowsOfAll 119 = .ok (.iand, 1) := by decide +kernel
theorem dX4_rowsOfAll_120 : decode cX4_rowsOfAll 120 = .ok (.ifCond .ne 23, 3) := by decide +kernel
theorem dX4_rowsOfAll_123 : decode cX4_rowsOfAll 123 = .ok (.aload_n 0, 1) := by decide +kernel
theorem dX4_rowsOfAll_124 : decode cX4_rowsOfAll 124 = .ok (.getfield 9, 3) := by decide +kernel
theorem dX4_rowsOfAll_127 : decode cX4_rowsOfAll 127 = .ok (.iload_n 3, 1) := by decide +kernel
theorem dX4_rowsOfAll_128 : decode cX4_rowsOfAll 128 = .ok (.iconst 1, 1) := by decide +kernel
theorem dX4_rowsOfAll_129 : decode cX4_rowsOfAll 129 = .ok (.iload 4, 2) := by decide +kernel
theorem dX4_rowsOfAll_131 : decode cX4_rowsOfAll 131 = .ok (.ishl, 1) := by decide +kernel
theorem dX4_rowsOfAll_132 : decode cX4_rowsOfAll 132 = .ok (.ior, 1) := by decide +kernel
theorem dX4_rowsOfAll_133 : decode cX4_rowsOfAll 133 = .ok (.dup2, 1) := by decide +kernel
theorem dX4_rowsOfAll_134 : decode cX4_rowsOfAll 134 = .ok (.iaload, 1) := by decide +kernel
theorem dX4_rowsOfAll_135 : decode cX4_rowsOfAll 135 = .ok (.aload_n 0, 1) := by decide +kernel
theorem dX4_rowsOfAll_136 : decode cX4_rowsOfAll 136 = .ok (.getfield 9, 3) := by decide +kernel
theorem dX4_rowsOfAll_139 : decode cX4_rowsOfAll 139 = .ok (.iload_n 3, 1) := by decide +kernel
theorem dX4_rowsOfAll_140 : decode cX4_rowsOfAll 140 = .ok (.iaload, 1) := by decide +kernel
theorem dX4_rowsOfAll_141 : decode cX4_rowsOfAll 141 = .ok (.iadd, 1) := by decide +kernel
theorem dX4_rowsOfAll_142 : decode cX4_rowsOfAll 142 = .ok (.iastore, 1) := by decide +kernel
theorem dX4_rowsOfAll_143 : decode cX4_rowsOfAll 143 = .ok (.iinc 4 1, 3) := by decide +kernel
theorem dX4_rowsOfAll_146 : decode cX4_rowsOfAll 146 = .ok (.goto (-53), 3) := by decide +kernel
theorem dX4_rowsOfAll_149 : decode cX4_rowsOfAll 149 = .ok (.iinc 3 1, 3) := by decide +kernel
theorem dX4_rowsOfAll_152 : decode cX4_rowsOfAll 152 = .ok (.goto (-67), 3) := by decide +kernel
theorem dX4_rowsOfAll_155 : decode cX4_rowsOfAll 155 = .ok (.aload_n 0, 1) := by decide +kernel
theorem dX4_rowsOfAll_156 : decode cX4_rowsOfAll 156 = .ok (.getfield 9, 3) := by decide +kernel
theorem dX4_rowsOfAll_159 : decode cX4_rowsOfAll 159 = .ok (.iload_n 2, 1) := by decide +kernel
theorem dX4_rowsOfAll_160 : decode cX4_rowsOfAll 160 = .ok (.iaload, 1) := by decide +kernel
theorem dX4_rowsOfAll_161 : decode cX4_rowsOfAll 161 = .ok (.ireturn, 1) := by decide +kernel
theorem dX5_init_0 : decode cX5_init 0 = .ok (.aload_n 0, 1) := by decide +kernel
theorem dX5_init_1 : decode cX5_init 1 = .ok (.invokespecial 3, 3) := by decide +kernel
theorem dX5_init_4 : decode cX5_init 4 = .ok (.aload_n 0, 1) := by decide +kernel
theorem dX5_init_5 : decode cX5_init 5 = .ok (.sipush 400, 3) := by decide +kernel
theorem dX5_init_8 : decode cX5_init 8 = .ok (.newarray .int, 2) := by decide +kernel
theorem dX5_init_10 : decode cX5_init 10 = .ok (.putfield 9, 3) := by decide +kernel
theorem dX5_init_13 : decode cX5_init 13 = .ok (.aload_n 0, 1) := by decide +kernel
theorem dX5_init_14 : decode cX5_init 14 = .ok (.iconst 0, 1) := by decide +kernel
theorem dX5_init_15 : decode cX5_init 15 = .ok (.putfield 15, 3) := by decide +kernel
theorem dX5_init_18 : decode cX5_init 18 = .ok (.aload_n 0, 1) := by decide +kernel
theorem dX5_init_19 : decode cX5_init 19 = .ok (.iconst 0, 1) := by decide +kernel
theorem dX5_init_20 : decode cX5_init 20 = .ok (.putfield 19, 3) := by decide +kernel
theorem dX5_init_23 : decode cX5_init 23 = .ok (.aload_n 0, 1) := by decide +kernel
theorem dX5_init_24 : decode cX5_init 24 = .ok (.iconst 0, 1) := by decide +kernel
theorem dX5_init_25 : decode cX5_init 25 = .ok (.putfield 22, 3) := by decide +kernel
theorem dX5_init_28 : decode cX5_init 28 = .ok (.aload_n 0, 1) := by decide +kernel
theorem dX5_init_29 : decode cX5_init 29 = .ok (.iconst 0, 1) := by decide +kernel
theorem dX5_init_30 : decode cX5_init 30 = .ok (.putfield 25, 3) := by decide +kernel
theorem dX5_init_33 : decode cX5_init 33 = .ok (.aload_n 0, 1) := by decide +kernel
theorem dX5_init_34 : decode cX5_init 34 = .ok (.iconst 2, 1) := by decide +kernel
theorem dX5_init_35 : decode cX5_init 35 = .ok (.putfield 28, 3) := by decide +kernel
theorem dX5_init_38 : decode cX5_init 38 = .ok (.aload_n 0, 1) := by decide +kernel
theorem dX5_init_39 : decode cX5_init 39 = .ok (.iconst 0, 1) := by decide +kernel
theorem dX5_init_40 : decode cX5_init 40 = .ok (.putfield 31, 3) := by decide +kernel
theorem dX5_init_43 : decode cX5_init 43 = .ok (.aload_n 0, 1) := by decide +kernel
theorem dX5_init_44 : decode cX5_init 44 = .ok (.iconst 0, 1) := by decide +kernel
theorem dX5_init_45 : decode cX5_init 45 = .ok (.putfield 34, 3) := by decide +kernel
theorem dX5_init_48 : decode cX5_init 48 = .ok (.aload_n 0, 1) := by decide +kernel
theorem dX5_init_49 : decode cX5_init 49 = .ok (.iconst (-1), 1) := by decide +kernel
theorem dX5_init_50 : decode cX5_init 50 = .ok (.putfield 37, 3) := by decide +kernel
theorem dX5_init_53 : decode cX5_init 53 = .ok (.aload_n 0, 1) := by decide +kernel
theorem dX5_init_54 : decode cX5_init 54 = .ok (.iconst 0, 1) := by decide +kernel
theorem dX5_init_55 : decode cX5_init 55 = .ok (.putfield 40, 3) := by decide +kernel
theorem dX5_init_58 : decode cX5_init 58 = .ok (.aload_n 0, 1) := by decide +kernel
theorem dX5_init_59 : decode cX5_init 59 = .ok (.bipush 80, 2) := by decide +kernel
theorem dX5_init_61 : decode cX5_init 61 = .ok (.newarray .int, 2) := by decide +kernel
theorem dX5_init_63 : decode cX5_init 63 = .ok (.putfield 43, 3) := by decide +kernel
theorem dX5_init_66 : decode cX5_init 66 = .ok (.aload_n 0, 1) := by decide +kernel
theorem dX5_init_67 : decode cX5_init 67 = .ok (.iconst 0, 1) := by decide +kernel
theorem dX5_init_68 : decode cX5_init 68 = .ok (.putfield 46, 3) := by decide +kernel
theorem dX5_init_71 : decode cX5_init 71 = .ok (.aload_n 0, 1) := by decide +kernel
theorem dX5_init_72 : decode cX5_init 72 = .ok (.sipush 400, 3) := by decide +kernel
theorem dX5_init_75 : decode cX5_init 75 = .ok (.newarray .int, 2) := by decide +kernel
theorem dX5_init_77 : decode cX5_init 77 = .ok (.putfield 49, 3) := by decide +kernel
theorem dX5_init_80 : decode cX5_init 80 = .ok (.aload_n 0, 1) := by decide +kernel
theorem dX5_init_81 : decode cX5_init 81 = .ok (.iconst 0, 1) := by decide +kernel
theorem dX5_init_82 : decode cX5_init 82 = .ok (.putfield 52, 3) := by decide +kernel
theorem dX5_init_85 : decode cX5_init 85 = .ok (.return_, 1) := by decide +kernel
theorem dX5_take_0 : decode cX5_take 0 = .ok (.bipush 24, 2) := by decide +kernel
theorem dX5_take_2 : decode cX5_take 2 = .ok (.istore_n 2, 1) := by decide +kernel
theorem dX5_take_3 : decode cX5_take 3 = .ok (.iload_n 2, 1) := by decide +kernel
theorem dX5_take_4 : decode cX5_take 4 = .ok (.ifCond .lt 45, 3) := by decide +kernel
theorem dX5_take_7 : decode cX5_take 7 = .ok (.aload_n 0, 1) := by decide +kernel
theorem dX5_take_8 : decode cX5_take 8 = .ok (.getfield 15, 3) := by decide +kernel
theorem dX5_take_11 : decode cX5_take 11 = .ok (.sipush 400, 3) := by decide +kernel
theorem dX5_take_14 : decode cX5_take 14 = .ok (.if_icmp .ge 29, 3) := by decide +kernel
theorem dX5_take_17 : decode cX5_take 17 = .ok (.aload_n 0, 1) := by decide +kernel
theorem dX5_take_18 : decode cX5_take 18 = .ok (.getfield 9, 3) := by decide +kernel
theorem dX5_take_21 : decode cX5_take 21 = .ok (.aload_n 0, 1) := by decide +kernel
theorem dX5_take_22 : decode cX5_take 22 = .ok (.getfield 15, 3) := by decide +kernel
theorem dX5_take_25 : decode cX5_take 25 = .ok (.iload_n 1, 1) := by decide +kernel
theorem dX5_take_26 : decode cX5_take 26 = .ok (.iload_n 2, 1) := by decide +kernel
theorem dX5_take_27 : decode cX5_take 27 = .ok (.iushr, 1) := by decide +kernel
theorem dX5_take_28 : decode cX5_take 28 = .ok (.sipush 255, 3) := by decide +kernel
theorem dX5_take_31 : decode cX5_take 31 = .ok (.iand, 1) := by decide +kernel
theorem dX5_take_32 : decode cX5_take 32 = .ok (.iastore, 1) := by decide +kernel
theorem dX5_take_33 : decode cX5_take 33 = .ok (.aload_n 0, 1) := by decide +kernel
theorem dX5_take_34 : decode cX5_take 34 = .ok (.dup, 1) := by decide +kernel
theorem dX5_take_35 : decode cX5_take 35 = .ok (.getfield 15, 3) := by decide +kernel
theorem dX5_take_38 : decode cX5_take 38 = .ok (.iconst 1, 1) := by decide +kernel
theorem dX5_take_39 : decode cX5_take 39 = .ok (.iadd, 1) := by decide +kernel
theorem dX5_take_40 : decode cX5_take 40 = .ok (.putfield 15, 3) := by decide +kernel
theorem dX5_take_43 : decode cX5_take 43 = .ok (.iinc 2 (-8), 3) := by decide +kernel
theorem dX5_take_46 : decode cX5_take 46 = .ok (.goto (-43), 3) := by decide +kernel
theorem dX5_take_49 : decode cX5_take 49 = .ok (.return_, 1) := by decide +kernel
theorem dX5_readTape_0 : decode cX5_readTape 0 = .ok (.aload_n 0, 1) := by decide +kernel
theorem dX5_readTape_1 : decode cX5_readTape 1 = .ok (.aload_n 0, 1) := by decide +kernel
theorem dX5_readTape_2 : decode cX5_readTape 2 = .ok (.getfield 15, 3) := by decide +kernel
theorem dX5_readTape_5 : decode cX5_readTape 5 = .ok (.putfield 19, 3) := by decide +kernel
theorem dX5_readTape_8 : decode cX5_readTape 8 = .ok (.aload_n 0, 1) := by decide +kernel
theorem dX5_readTape_9 : decode cX5_readTape 9 = .ok (.iconst 0, 1) := by decide +kernel
theorem dX5_readTape_10 : decode cX5_readTape 10 = .ok (.putfield 15, 3) := by decide +kernel
theorem dX5_readTape_13 : decode cX5_readTape 13 = .ok (.aload_n 0, 1) := by decide +kernel
theorem dX5_readTape_14 : decode cX5_readTape 14 = .ok (.iconst 0, 1) := by decide +kernel
theorem dX5_readTape_15 : decode cX5_readTape 15 = .ok (.putfield 25, 3) := by decide +kernel
theorem dX5_readTape_18 : decode cX5_readTape 18 = .ok (.aload_n 0, 1) := by decide +kernel
theorem dX5_readTape_19 : decode cX5_readTape 19 = .ok (.iconst 0, 1) := by decide +kernel
theorem dX5_readTape_20 : decode cX5_readTape 20 = .ok (.putfield 46, 3) := by decide +kernel
theorem dX5_readTape_23 : decode cX5_readTape 23 = .ok (.aload_n 0, 1) := by decide +kernel
theorem dX5_readTape_24 : decode cX5_readTape 24 = .ok (.iconst 0, 1) := by decide +kernel
theorem dX5_readTape_25 : decode cX5_readTape 25 = .ok (.putfield 52, 3) := by decide +kernel
theorem dX5_readTape_28 : decode cX5_readTape 28 = .ok (.aload_n 0, 1) := by decide +kernel
theorem dX5_readTape_29 : decode cX5_readTape 29 = .ok (.iload_n 2, 1) := by decide +kernel
theorem dX5_readTape_30 : decode cX5_readTape 30 = .ok (.putfield 40, 3) := by decide +kernel
theorem dX5_readTape_33 : decode cX5_readTape 33 = .ok (.aload_n 0, 1) := by decide +kernel
theorem dX5_readTape_34 : decode cX5_readTape 34 = .ok (.iconst 0, 1) := by decide +kernel
theorem dX5_readTape_35 : decode cX5_readTape 35 = .ok (.putfield 34, 3) := by decide +kernel
theorem dX5_readTape_38 : decode cX5_readTape 38 = .ok (.aload_n 0, 1) := by decide +kernel
theorem dX5_readTape_39 : decode cX5_readTape 39 = .ok (.iconst (-1), 1) := by decide +kernel
theorem dX5_readTape_40 : decode cX5_readTape 40 = .ok (.putfield 37, 3) := by decide +kernel
theorem dX5_readTape_43 : decode cX5_readTape 43 = .ok (.iload_n 1, 1) := by decide +kernel
theorem dX5_readTape_44 : decode cX5_readTape 44 = .ok (.ifCond .lt 8, 3) := by decide +kernel
theorem dX5_readTape_47 : decode cX5_readTape 47 = .ok (.iload_n 1, 1) := by decide +kernel
theorem dX5_readTape_48 : decode cX5_readTape 48 = .ok (.iconst 4, 1) := by decide +kernel
theorem dX5_readTape_49 : decode cX5_readTape 49 = .ok (.if_icmp .lt 5, 3) := by decide +kernel
theorem dX5_readTape_52 : decode cX5_readTape 52 = .ok (.aconst_null, 1) := by decide +kernel
theorem dX5_readTape_53 : decode cX5_readTape 53 = .ok (.areturn, 1) := by decide +kernel
theorem dX5_readTape_54 : decode cX5_readTape 54 = .ok (.aload_n 0, 1) := by decide +kernel
theorem dX5_readTape_55 : decode cX5_readTape 55 = .ok (.invokevirtual 55, 3) := by decide +kernel
theorem dX5_readTape_58 : decode cX5_readTape 58 = .ok (.iconst 1, 1) := by decide +kernel
theorem dX5_readTape_59 : decode cX5_readTape 59 = .ok (.istore_n 3, 1) := by decide +kernel
theorem dX5_readTape_60 : decode cX5_readTape 60 = .ok (.iconst 0, 1) := by decide +kernel
theorem dX5_readTape_61 : decode cX5_readTape 61 = .ok (.istore 4, 2) := by decide +kernel
theorem dX5_readTape_63 : decode cX5_readTape 63 = .ok (.iload 4, 2) := by decide +kernel
theorem dX5_readTape_65 : decode cX5_readTape 65 = .ok (.bipush 16, 2) := by decide +kernel
theorem dX5_readTape_67 : decode cX5_readTape 67 = .ok (.if_icmp .gt 76, 3) := by decide +kernel
theorem dX5_readTape_70 : decode cX5_readTape 70 = .ok (.iload_n 3, 1) := by decide +kernel
theorem dX5_readTape_71 : decode cX5_readTape 71 = .ok (.ifCond .eq 72, 3) := by decide +kernel
theorem dX5_readTape_74 : decode cX5_readTape 74 = .ok (.aload_n 0, 1) := by decide +kernel
theorem dX5_readTape_75 : decode cX5_readTape 75 = .ok (.getfield 28, 3) := by decide +kernel
theorem dX5_readTape_78 : decode cX5_readTape 78 = .ok (.iconst 2, 1) := by decide +kernel
theorem dX5_readTape_79 : decode cX5_readTape 79 = .ok (.if_icmp .eq 64, 3) := by decide +kernel
theorem dX5_readTape_82 : decode cX5_readTape 82 = .ok (.aload_n 0, 1) := by decide +kernel
theorem dX5_readTape_83 : decode cX5_readTape 83 = .ok (.iload_n 1, 1) := by decide +kernel
theorem dX5_readTape_84 : decode cX5_readTape 84 = .ok (.invokevirtual 58, 3) := by decide +kernel
theorem dX5_readTape_87 : decode cX5_readTape 87 = .ok (.ifCond .eq 38, 3) := by decide +kernel
theorem dX5_readTape_90 : decode cX5_readTape 90 = .ok (.iload_n 1, 1) := by decide +kernel
theorem dX5_readTape_91 : decode cX5_readTape 91 = .ok (.ifCond .ne 13, 3) := by decide +kernel
theorem dX5_readTape_94 : decode cX5_readTape 94 = .ok (.aload_n 0, 1) := by decide +kernel
theorem dX5_readTape_95 : decode cX5_readTape 95 = .ok (.invokevirtual 62, 3) := by decide +kernel
theorem dX5_readTape_98 : decode cX5_readTape 98 = .ok (.ifCond .eq 27, 3) := by decide +kernel
theorem dX5_readTape_101 : decode cX5_readTape 101 = .ok (.goto 11, 3) := by decide +kernel
theorem dX5_readTape_104 : decode cX5_readTape 104 = .ok (.aload_n 0, 1) := by decide +kernel
theorem dX5_readTape_105 : decode cX5_readTape 105 = .ok (.iload_n 1, 1) := by decide +kernel
theorem dX5_readTape_106 : decode cX5_readTape 106 = .ok (.invokevirtual 66, 3) := by decide +kernel
theorem dX5_readTape_109 : decode cX5_readTape 109 = .ok (.ifCond .eq 16, 3) := by decide +kernel
theorem dX5_readTape_112 : decode cX5_readTape 112 = .ok (.aload_n 0, 1) := by decide +kernel
theorem dX5_readTape_113 : decode cX5_readTape 113 = .ok (.bipush 59, 2) := by decide +kernel
theorem dX5_readTape_115 : decode cX5_readTape 115 = .ok (.invokevirtual 69, 3) := by decide +kernel
theorem dX5_readTape_118 : decode cX5_readTape 118 = .ok (.ifCond .eq 7, 3) := by decide +kernel
theorem dX5_readTape_121 : decode cX5_readTape 121 = .ok (.iconst 1, 1) := by decide +kernel
theorem dX5_readTape_122 : decode cX5_readTape 122 = .ok (.goto 4, 3) := by decide +kernel
theorem dX5_readTape_125 : decode cX5_readTape 125 = .ok (.iconst 0, 1) := by decide +kernel
theorem dX5_readTape_126 : decode cX5_readTape 126 = .ok (.istore_n 3, 1) := by decide +kernel
theorem dX5_readTape_127 : decode cX5_readTape 127 = .ok (.aload_n 0, 1) := by decide +kernel
theorem dX5_readTape_128 : decode cX5_readTape 128 = .ok (.dup, 1) := by decide +kernel
theorem dX5_readTape_129 : decode cX5_readTape 129 = .ok (.getfield 46, 3) := by decide +kernel
theorem dX5_readTape_132 : decode cX5_readTape 132 = .ok (.iconst 1, 1) := by decide +kernel
theorem dX5_readTape_133 : decode cX5_readTape 133 = .ok (.iadd, 1) := by decide +kernel
theorem dX5_readTape_134 : decode cX5_readTape 134 = .ok (.putfield 46, 3) := by decide +kernel
theorem dX5_readTape_137 : decode cX5_readTape 137 = .ok (.iinc 4 1, 3) := by decide +kernel
theorem dX5_readTape_140 : decode cX5_readTape 140 = .ok (.goto (-77), 3) := by decide +kernel
theorem dX5_readTape_143 : decode cX5_readTape 143 = .ok (.iload_n 3, 1) := by decide +kernel
theorem dX5_readTape_144 : decode cX5_readTape 144 = .ok (.ifCond .ne 5, 3) := by decide +kernel
theorem dX5_readTape_147 : decode cX5_readTape 147 = .ok (.aconst_null, 1) := by decide +kernel
theorem dX5_readTape_148 : decode cX5_readTape 148 = .ok (.areturn, 1) := by decide +kernel
theorem dX5_readTape_149 : decode cX5_readTape 149 = .ok (.new 72, 3) := by decide +kernel
theorem dX5_readTape_152 : decode cX5_readTape 152 = .ok (.dup, 1) := by decide +kernel
theorem dX5_readTape_153 : decode cX5_readTape 153 = .ok (.aload_n 0, 1) := by decide +kernel
theorem dX5_readTape_154 : decode cX5_readTape 154 = .ok (.getfield 43, 3) := by decide +kernel
theorem dX5_readTape_157 : decode cX5_readTape 157 = .ok (.aload_n 0, 1) := by decide +kernel
theorem dX5_readTape_158 : decode cX5_readTape 158 = .ok (.getfield 46, 3) := by decide +kernel
theorem dX5_readTape_161 : decode cX5_readTape 161 = .ok (.iconst 5, 1) := by decide +kernel
theorem dX5_readTape_162 : decode cX5_readTape 162 = .ok (.imul, 1) := by decide +kernel
theorem dX5_readTape_163 : decode cX5_readTape 163 = .ok (.invokestatic 74, 3) := by decide +kernel
theorem dX5_readTape_166 : decode cX5_readTape 166 = .ok (.aload_n 0, 1) := by decide +kernel
theorem dX5_readTape_167 : decode cX5_readTape 167 = .ok (.getfield 46, 3) := by decide +kernel
theorem dX5_readTape_170 : decode cX5_readTape 170 = .ok (.aload_n 0, 1) := by decide +kernel
theorem dX5_readTape_171 : decode cX5_readTape 171 = .ok (.getfield 49, 3) := by decide +kernel
theorem dX5_readTape_174 : decode cX5_readTape 174 = .ok (.aload_n 0, 1) := by decide +kernel
theorem dX5_readTape_175 : decode cX5_readTape 175 = .ok (.getfield 52, 3) := by decide +kernel
theorem dX5_readTape_178 : decode cX5_readTape 178 = .ok (.invokestatic 74, 3) := by decide +kernel
theorem dX5_readTape_181 : decode cX5_readTape 181 = .ok (.invokespecial 80, 3) := by decide +kernel
theorem dX5_readTape_184 : decode cX5_readTape 184 = .ok (.areturn, 1) := by decide +kernel
theorem dX5_step_0 : decode cX5_step 0 = .ok (.aload_n 0, 1) := by decide +kernel
theorem dX5_step_1 : decode cX5_step 1 = .ok (.getfield 25, 3) := by decide +kernel
theorem dX5_step_4 : decode cX5_step 4 = .ok (.aload_n 0, 1) := by decide +kernel
theorem dX5_step_5 : decode cX5_step 5 = .ok (.getfield 19, 3) := by decide +kernel
theorem dX5_step_8 : decode cX5_step 8 = .ok (.if_icmp .ge 44, 3) := by decide +kernel
theorem dX5_step_11 : decode cX5_step 11 = .ok (.aload_n 0, 1) := by decide +kernel
theorem dX5_step_12 : decode cX5_step 12 = .ok (.getfield 9, 3) := by decide +kernel
theorem dX5_step_15 : decode cX5_step 15 = .ok (.aload_n 0, 1) := by decide +kernel
theorem dX5_step_16 : decode cX5_step 16 = .ok (.getfield 25, 3) := by decide +kernel
theorem dX5_step_19 : decode cX5_step 19 = .ok (.iaload, 1) := by decide +kernel
theorem dX5_step_20 : decode cX5_step 20 = .ok (.bipush 32, 2) := by decide +kernel
theorem dX5_step_22 : decode cX5_step 22 = .ok (.if_icmp .eq 17, 3) := by decide +kernel
theorem dX5_step_25 : decode cX5_step 25 = .ok (.aload_n 0, 1) := by decide +kernel
theorem dX5_step_26 : decode cX5_step 26 = .ok (.getfield 9, 3) := by decide +kernel
theorem dX5_step_29 : decode cX5_step 29 = .ok (.aload_n 0, 1) := by decide +kernel
theorem dX5_step_30 : decode cX5_step 30 = .ok (.getfield 25, 3) := by decide +kernel
theorem dX5_step_33 : decode cX5_step 33 = .ok (.iaload, 1) := by decide +kernel
theorem dX5_step_34 : decode cX5_step 34 = .ok (.bipush 10, 2) := by decide +kernel
theorem dX5_step_36 : decode cX5_step 36 = .ok (.if_icmp .ne 16, 3) := by decide +kernel
theorem dX5_step_39 : decode cX5_step 39 = .ok (.aload_n 0, 1) := by decide +kernel
theorem dX5_step_40 : decode cX5_step 40 = .ok (.dup, 1) := by decide +kernel
theorem dX5_step_41 : decode cX5_step 41 = .ok (.getfield 25, 3) := by decide +kernel
theorem dX5_step_44 : decode cX5_step 44 = .ok (.iconst 1, 1) := by decide +kernel
theorem dX5_step_45 : decode cX5_step 45 = .ok (.iadd, 1) := by decide +kernel
theorem dX5_step_46 : decode cX5_step 46 = .ok (.putfield 25, 3) := by decide +kernel
theorem dX5_step_49 : decode cX5_step 49 = .ok (.goto (-49), 3) := by decide +kernel
theorem dX5_step_52 : decode cX5_step 52 = .ok (.aload_n 0, 1) := by decide +kernel
theorem dX5_step_53 : decode cX5_step 53 = .ok (.aload_n 0, 1) := by decide +kernel
theorem dX5_step_54 : decode cX5_step 54 = .ok (.getfield 25, 3) := by decide +kernel
theorem dX5_step_57 : decode cX5_step 57 = .ok (.putfield 22, 3) := by decide +kernel
theorem dX5_step_60 : decode cX5_step 60 = .ok (.aload_n 0, 1) := by decide +kernel
theorem dX5_step_61 : decode cX5_step 61 = .ok (.getfield 25, 3) := by decide +kernel
theorem dX5_step_64 : decode cX5_step 64 = .ok (.aload_n 0, 1) := by decide +kernel
theorem dX5_step_65 : decode cX5_step 65 = .ok (.getfield 19, 3) := by decide +kernel
theorem dX5_step_68 : decode cX5_step 68 = .ok (.if_icmp .lt 11, 3) := by decide +kernel
theorem dX5_step_71 : decode cX5_step 71 = .ok (.aload_n 0, 1) := by decide +kernel
theorem dX5_step_72 : decode cX5_step 72 = .ok (.iconst 2, 1) := by decide +kernel
theorem dX5_step_73 : decode cX5_step 73 = .ok (.putfield 28, 3) := by decide +kernel
theorem dX5_step_76 : decode cX5_step 76 = .ok (.goto 239, 3) := by decide +kernel
theorem dX5_step_79 : decode cX5_step 79 = .ok (.aload_n 0, 1) := by decide +kernel
theorem dX5_step_80 : decode cX5_step 80 = .ok (.getfield 9, 3) := by decide +kernel
theorem dX5_step_83 : decode cX5_step 83 = .ok (.aload_n 0, 1) := by decide +kernel
theorem dX5_step_84 : decode cX5_step 84 = .ok (.getfield 25, 3) := by decide +kernel
theorem dX5_step_87 : decode cX5_step 87 = .ok (.iaload, 1) := by decide +kernel
theorem dX5_step_88 : decode cX5_step 88 = .ok (.invokestatic 83, 3) := by decide +kernel
theorem dX5_step_91 : decode cX5_step 91 = .ok (.ifCond .eq 61, 3) := by decide +kernel
theorem dX5_step_94 : decode cX5_step 94 = .ok (.aload_n 0, 1) := by decide +kernel
theorem dX5_step_95 : decode cX5_step 95 = .ok (.getfield 25, 3) := by decide +kernel
theorem dX5_step_98 : decode cX5_step 98 = .ok (.aload_n 0, 1) := by decide +kernel
theorem dX5_step_99 : decode cX5_step 99 = .ok (.getfield 19, 3) := by decide +kernel
theorem dX5_step_102 : decode cX5_step 102 = .ok (.if_icmp .ge 31, 3) := by decide +kernel
theorem dX5_step_105 : decode cX5_step 105 = .ok (.aload_n 0, 1) := by decide +kernel
theorem dX5_step_106 : decode cX5_step 106 = .ok (.getfield 9, 3) := by decide +kernel
theorem dX5_step_109 : decode cX5_step 109 = .ok (.aload_n 0, 1) := by decide +kernel
theorem dX5_step_110 : decode cX5_step 110 = .ok (.getfield 25, 3) := by decide +kernel
theorem dX5_step_113 : decode cX5_step 113 = .ok (.iaload, 1) := by decide +kernel
theorem dX5_step_114 : decode cX5_step 114 = .ok (.invokestatic 83, 3) := by decide +kernel
theorem dX5_step_117 : decode cX5_step 117 = .ok (.ifCond .eq 16, 3) := by decide +kernel
theorem dX5_step_120 : decode cX5_step 120 = .ok (.aload_n 0, 1) := by decide +kernel
theorem dX5_step_121 : decode cX5_step 121 = .ok (.dup, 1) := by decide +kernel
theorem dX5_step_122 : decode cX5_step 122 = .ok (.getfield 25, 3) := by decide +kernel
theorem dX5_step_125 : decode cX5_step 125 = .ok (.iconst 1, 1) := by decide +kernel
theorem dX5_step_126 : decode cX5_step 126 = .ok (.iadd, 1) := by decide +kernel
theorem dX5_step_127 : decode cX5_step 127 = .ok (.putfield 25, 3) := by decide +kernel
theorem dX5_step_130 : decode cX5_step 130 = .ok (.goto (-36), 3) := by decide +kernel
theorem dX5_step_133 : decode cX5_step 133 = .ok (.aload_n 0, 1) := by decide +kernel
theorem dX5_step_134 : decode cX5_step 134 = .ok (.aload_n 0, 1) := by decide +kernel
theorem dX5_step_135 : decode cX5_step 135 = .ok (.aload_n 0, 1) := by decide +kernel
theorem dX5_step_136 : decode cX5_step 136 = .ok (.getfield 22, 3) := by decide +kernel
theorem dX5_step_139 : decode cX5_step 139 = .ok (.aload_n 0, 1) := by decide +kernel
theorem dX5_step_140 : decode cX5_step 140 = .ok (.getfield 25, 3) := by decide +kernel
theorem dX5_step_143 : decode cX5_step 143 = .ok (.invokevirtual 86, 3) := by decide +kernel
theorem dX5_step_146 : decode cX5_step 146 = .ok (.putfield 28, 3) := by decide +kernel
theorem dX5_step_149 : decode cX5_step 149 = .ok (.goto 166, 3) := by decide +kernel
theorem dX5_step_152 : decode cX5_step 152 = .ok (.aload_n 0, 1) := by decide +kernel
theorem dX5_step_153 : decode cX5_step 153 = .ok (.getfield 9, 3) := by decide +kernel
theorem dX5_step_156 : decode cX5_step 156 = .ok (.aload_n 0, 1) := by decide +kernel
theorem dX5_step_157 : decode cX5_step 157 = .ok (.getfield 25, 3) := by decide +kernel
theorem dX5_step_160 : decode cX5_step 160 = .ok (.iaload, 1) := by decide +kernel
theorem dX5_step_161 : decode cX5_step 161 = .ok (.invokestatic 90, 3) := by decide +kernel
theorem dX5_step_164 : decode cX5_step 164 = .ok (.ifCond .eq 96, 3) := by decide +kernel
theorem dX5_step_167 : decode cX5_step 167 = .ok (.aload_n 0, 1) := by decide +kernel
theorem dX5_step_168 : decode cX5_step 168 = .ok (.iconst 0, 1) := by decide +kernel
theorem dX5_step_169 : decode cX5_step 169 = .ok (.putfield 31, 3) := by decide +kernel
theorem dX5_step_172 : decode cX5_step 172 = .ok (.aload_n 0, 1) := by decide +kernel
theorem dX5_step_173 : decode cX5_step 173 = .ok (.getfield 25, 3) := by decide +kernel
theorem dX5_step_176 : decode cX5_step 176 = .ok (.aload_n 0, 1) := by decide +kernel
theorem dX5_step_177 : decode cX5_step 177 = .ok (.getfield 19, 3) := by decide +kernel
theorem dX5_step_180 : decode cX5_step 180 = .ok (.if_icmp .ge 55, 3) := by decide +kernel
theorem dX5_step_183 : decode cX5_step 183 = .ok (.aload_n 0, 1) := by decide +kernel
theorem dX5_step_184 : decode cX5_step 184 = .ok (.getfield 9, 3) := by decide +kernel
theorem dX5_step_187 : decode cX5_step 187 = .ok (.aload_n 0, 1) := by decide +kernel
theorem dX5_step_188 : decode cX5_step 188 = .ok (.getfield 25, 3) := by decide +kernel
theorem dX5_step_191 : decode cX5_step 191 = .ok (.iaload, 1) := by decide +kernel
theorem dX5_step_192 : decode cX5_step 192 = .ok (.invokestatic 90, 3) := by decide +kernel
theorem dX5_step_195 : decode cX5_step 195 = .ok (.ifCond .eq 40, 3) := by decide +kernel
theorem dX5_step_198 : decode cX5_step 198 = .ok (.aload_n 0, 1) := by decide +kernel
theorem dX5_step_199 : decode cX5_step 199 = .ok (.aload_n 0, 1) := by decide +kernel
theorem dX5_step_200 : decode cX5_step 200 = .ok (.getfield 31, 3) := by decide +kernel
theorem dX5_step_203 : decode cX5_step 203 = .ok (.bipush 10, 2) := by decide +kernel
theorem dX5_step_205 : decode cX5_step 205 = .ok (.imul, 1) := by decide +kernel
theorem dX5_step_206 : decode cX5_step 206 = .ok (.aload_n 0, 1) := by decide +kernel
theorem dX5_step_207 : decode cX5_step 207 = .ok (.getfield 9, 3) := by decide +kernel
theorem dX5_step_210 : decode cX5_step 210 = .ok (.aload_n 0, 1) := by decide +kernel
theorem dX5_step_211 : decode cX5_step 211 = .ok (.getfield 25, 3) := by decide +kernel
theorem dX5_step_214 : decode cX5_step 214 = .ok (.iaload, 1) := by decide +kernel
theorem dX5_step_215 : decode cX5_step 215 = .ok (.iadd, 1) := by decide +kernel
theorem dX5_step_216 : decode cX5_step 216 = .ok (.bipush 48, 2) := by decide +kernel
theorem dX5_step_218 : decode cX5_step 218 = .ok (.isub, 1) := by decide +kernel
theorem dX5_step_219 : decode cX5_step 219 = .ok (.putfield 31, 3) := by decide +kernel
theorem dX5_step_222 : decode cX5_step 222 = .ok (.aload_n 0, 1) := by decide +kernel
theorem dX5_step_223 : decode cX5_step 223 = .ok (.dup, 1) := by decide +kernel
theorem dX5_step_224 : decode cX5_step 224 = .ok (.getfield 25, 3) := by decide +kernel
theorem dX5_step_227 : decode cX5_step 227 = .ok (.iconst 1, 1) := by decide +kernel
theorem dX5_step_228 : decode cX5_step 228 = .ok (.iadd, 1) := by decide +kernel
theorem dX5_step_229 : decode cX5_step 229 = .ok (.putfield 25, 3) := by decide +kernel
theorem dX5_step_232 : decode cX5_step 232 = .ok (.goto (-60), 3) := by decide +kernel
theorem dX5_step_235 : decode cX5_step 235 = .ok (.aload_n 0, 1) := by decide +kernel
theorem dX5_step_236 : decode cX5_step 236 = .ok (.aload_n 0, 1) := by decide +kernel
theorem dX5_step_237 : decode cX5_step 237 = .ok (.getfield 25, 3) := by decide +kernel
theorem dX5_step_240 : decode cX5_step 240 = .ok (.aload_n 0, 1) := by decide +kernel
theorem dX5_step_241 : decode cX5_step 241 = .ok (.getfield 22, 3) := by decide +kernel
theorem dX5_step_244 : decode cX5_step 244 = .ok (.isub, 1) := by decide +kernel
theorem dX5_step_245 : decode cX5_step 245 = .ok (.iconst 4, 1) := by decide +kernel
theorem dX5_step_246 : decode cX5_step 246 = .ok (.if_icmp .gt 7, 3) := by decide +kernel
theorem dX5_step_249 : decode cX5_step 249 = .ok (.iconst 1, 1) := by decide +kernel
theorem dX5_step_250 : decode cX5_step 250 = .ok (.goto 4, 3) := by decide +kernel
theorem dX5_step_253 : decode cX5_step 253 = .ok (.iconst 3, 1) := by decide +kernel
theorem dX5_step_254 : decode cX5_step 254 = .ok (.putfield 28, 3) := by decide +kernel
theorem dX5_step_257 : decode cX5_step 257 = .ok (.goto 58, 3) := by decide +kernel
theorem dX5_step_260 : decode cX5_step 260 = .ok (.aload_n 0, 1) := by decide +kernel
theorem dX5_step_261 : decode cX5_step 261 = .ok (.aload_n 0, 1) := by decide +kernel
theorem dX5_step_262 : decode cX5_step 262 = .ok (.getfield 9, 3) := by decide +kernel
theorem dX5_step_265 : decode cX5_step 265 = .ok (.aload_n 0, 1) := by decide +kernel
theorem dX5_step_266 : decode cX5_step 266 = .ok (.getfield 25, 3) := by decide +kernel
theorem dX5_step_269 : decode cX5_step 269 = .ok (.iaload, 1) := by decide +kernel
theorem dX5_step_270 : decode cX5_step 270 = .ok (.bipush 40, 2) := by decide +kernel
theorem dX5_step_272 : decode cX5_step 272 = .ok (.if_icmp .lt 29, 3) := by decide +kernel
theorem dX5_step_275 : decode cX5_step 275 = .ok (.aload_n 0, 1) := by decide +kernel
theorem dX5_step_276 : decode cX5_step 276 = .ok (.getfield 9, 3) := by decide +kernel
theorem dX5_step_279 : decode cX5_step 279 = .ok (.aload_n 0, 1) := by decide +kernel
theorem dX5_step_280 : decode cX5_step 280 = .ok (.getfield 25, 3) := by decide +kernel
theorem dX5_step_283 : decode cX5_step 283 = .ok (.iaload, 1) := by decide +kernel
theorem dX5_step_284 : decode cX5_step 284 = .ok (.bipush 62, 2) := by decide +kernel
theorem dX5_step_286 : decode cX5_step 286 = .ok (.if_icmp .gt 15, 3) := by decide +kernel
theorem dX5_step_289 : decode cX5_step 289 = .ok (.aload_n 0, 1) := by decide +kernel
theorem dX5_step_290 : decode cX5_step 290 = .ok (.getfield 9, 3) := by decide +kernel
theorem dX5_step_293 : decode cX5_step 293 = .ok (.aload_n 0, 1) := by decide +kernel
theorem dX5_step_294 : decode cX5_step 294 = .ok (.getfield 25, 3) := by decide +kernel
theorem dX5_step_297 : decode cX5_step 297 = .ok (.iaload, 1) := by decide +kernel
theorem dX5_step_298 : decode cX5_step 298 = .ok (.goto 4, 3) := by decide +kernel
theorem dX5_step_301 : decode cX5_step 301 = .ok (.iconst 3, 1) := by decide +kernel
theorem dX5_step_302 : decode cX5_step 302 = .ok (.putfield 28, 3) := by decide +kernel
theorem dX5_step_305 : decode cX5_step 305 = .ok (.aload_n 0, 1) := by decide +kernel
theorem dX5_step_306 : decode cX5_step 306 = .ok (.dup, 1) := by decide +kernel
theorem dX5_step_307 : decode cX5_step 307 = .ok (.getfield 25, 3) := by decide +kernel
theorem dX5_step_310 : decode cX5_step 310 = .ok (.iconst 1, 1) := by decide +kernel
theorem dX5_step_311 : decode cX5_step 311 = .ok (.iadd, 1) := by decide +kernel
theorem dX5_step_312 : decode cX5_step 312 = .ok (.putfield 25, 3) := by decide +kernel
theorem dX5_step_315 : decode cX5_step 315 = .ok (.return_, 1) := by decide +kernel
theorem dX5_letter_0 : decode cX5_letter 0 = .ok (.iload_n 0, 1) := by decide +kernel
theorem dX5_letter_1 : decode cX5_letter 1 = .ok (.bipush 97, 2) := by decide +kernel
theorem dX5_letter_3 : decode cX5_letter 3 = .ok (.if_icmp .lt 9, 3) := by decide +kernel
theorem dX5_letter_6 : decode cX5_letter 6 = .ok (.iload_n 0, 1) := by decide +kernel
theorem dX5_letter_7 : decode cX5_letter 7 = .ok (.bipush 122, 2) := by decide +kernel
theorem dX5_letter_9 : decode cX5_letter 9 = .ok (.if_icmp .le 15, 3) := by decide +kernel
theorem dX5_letter_12 : decode cX5_letter 12 = .ok (.iload_n 0, 1) := by decide +kernel
theorem dX5_letter_13 : decode cX5_letter 13 = .ok (.bipush 65, 2) := by decide +kernel
theorem dX5_letter_15 : decode cX5_letter 15 = .ok (.if_icmp .lt 13, 3) := by decide +kernel
theorem dX5_letter_18 : decode cX5_letter 18 = .ok (.iload_n 0, 1) := by decide +kernel
theorem dX5_letter_19 : decode cX5_letter 19 = .ok (.bipush 90, 2) := by decide +kernel
theorem dX5_letter_21 : decode cX5_letter 21 = .ok (.if_icmp .gt 7, 3) := by decide +kernel
theorem dX5_letter_24 : decode cX5_letter 24 = .ok (.iconst 1, 1) := by decide +kernel
theorem dX5_letter_25 : decode cX5_letter 25 = .ok (.goto 4, 3) := by decide +kernel
theorem dX5_letter_28 : decode cX5_letter 28 = .ok (.iconst 0, 1) := by decide +kernel
theorem dX5_letter_29 : decode cX5_letter 29 = .ok (.ireturn, 1) := by decide +kernel
theorem dX5_digit_0 : decode cX5_digit 0 = .ok (.iload_n 0, 1) := by decide +kernel
theorem dX5_digit_1 : decode cX5_digit 1 = .ok (.bipush 48, 2) := by decide +kernel
theorem dX5_digit_3 : decode cX5_digit 3 = .ok (.if_icmp .lt 13, 3) := by decide +kernel
theorem dX5_digit_6 : decode cX5_digit 6 = .ok (.iload_n 0, 1) := by decide +kernel
theorem dX5_digit_7 : decode cX5_digit 7 = .ok (.bipush 57, 2) := by decide +kernel
theorem dX5_digit_9 : decode cX5_digit 9 = .ok (.if_icmp .gt 7, 3) := by decide +kernel
theorem dX5_digit_12 : decode cX5_digit 12 = .ok (.iconst 1, 1) := by decide +kernel
theorem dX5_digit_13 : decode cX5_digit 13 = .ok (.goto 4, 3) := by decide +kernel
theorem dX5_digit_16 : decode cX5_digit 16 = .ok (.iconst 0, 1) := by decide +kernel
theorem dX5_digit_17 : decode cX5_digit 17 = .ok (.ireturn, 1) := by decide +kernel
theorem dX5_wordOf_0 : decode cX5_wordOf 0 = .ok (.sipush 300, 3) := by decide +kernel
theorem dX5_wordOf_3 : decode cX5_wordOf 3 = .ok (.istore_n 3, 1) := by decide +kernel
theorem dX5_wordOf_4 : decode cX5_wordOf 4 = .ok (.iload_n 1, 1) := by decide +kernel
theorem dX5_wordOf_5 : decode cX5_wordOf 5 = .ok (.istore 4, 2) := by decide +kernel
theorem dX5_wordOf_7 : decode cX5_wordOf 7 = .ok (.iconst 1, 1) := by decide +kernel
theorem dX5_wordOf_8 : decode cX5_wordOf 8 = .ok (.istore 5, 2) := by decide +kernel
theorem dX5_wordOf_10 : decode cX5_wordOf 10 = .ok (.iconst 0, 1) := by decide +kernel
theorem dX5_wordOf_11 : decode cX5_wordOf 11 = .ok (.istore 6, 2) := by decide +kernel
theorem dX5_wordOf_13 : decode cX5_wordOf 13 = .ok (.iload 6, 2) := by decide +kernel
theorem dX5_wordOf_15 : decode cX5_wordOf 15 = .ok (.ldc 93, 2) := by decide +kernel
theorem dX5_wordOf_17 : decode cX5_wordOf 17 = .ok (.invokevirtual 95, 3) := by decide +kernel
theorem dX5_wordOf_20 : decode cX5_wordOf 20 = .ok (.if_icmp .ge 92, 3) := by decide +kernel
theorem dX5_wordOf_23 : decode cX5_wordOf 23 = .ok (.ldc 93, 2) := by decide +kernel
theorem dX5_wordOf_25 : decode cX5_wordOf 25 = .ok (.iload 6, 2) := by decide +kernel
theorem dX5_wordOf_27 : decode cX5_wordOf 27 = .ok (.invokevirtual 100, 3) := by decide +kernel
theorem dX5_wordOf_30 : decode cX5_wordOf 30 = .ok (.istore 7, 2) := by decide +kernel
theorem dX5_wordOf_32 : decode cX5_wordOf 32 = .ok (.iload 7, 2) := by decide +kernel
theorem dX5_wordOf_34 : decode cX5_wordOf 34 = .ok (.bipush 32, 2) := by decide +kernel
theorem dX5_wordOf_36 : decode cX5_wordOf 36 = .ok (.if_icmp .ne 28, 3) := by decide +kernel
theorem dX5_wordOf_39 : decode cX5_wordOf 39 = .ok (.iload 5, 2) := by decide +kernel
theorem dX5_wordOf_41 : decode cX5_wordOf 41 = .ok (.ifCond .eq 11, 3) := by decide +kernel
theorem dX5_wordOf_44 : decode cX5_wordOf 44 = .ok (.iload 4, 2) := by decide +kernel
theorem dX5_wordOf_46 : decode cX5_wordOf 46 = .ok (.iload_n 2, 1) := by decide +kernel
theorem dX5_wordOf_47 : decode cX5_wordOf 47 = .ok (.if_icmp .ne 5, 3) := by decide +kernel
theorem dX5_wordOf_50 : decode cX5_wordOf 50 = .ok (.iload_n 3, 1) := by decide +kernel
theorem dX5_wordOf_51 : decode cX5_wordOf 51 = .ok (.ireturn, 1) := by decide +kernel
theorem dX5_wordOf_52 : decode cX5_wordOf 52 = .ok (.iinc 3 1, 3) := by decide +kernel
theorem dX5_wordOf_55 : decode cX5_wordOf 55 = .ok (.iload_n 1, 1) := by decide +kernel
theorem dX5_wordOf_56 : decode cX5_wordOf 56 = .ok (.istore 4, 2) := by decide +kernel
theorem dX5_wordOf_58 : decode cX5_wordOf 58 = .ok (.iconst 1, 1) := by decide +kernel
theorem dX5_wordOf_59 : decode cX5_wordOf 59 = .ok (.istore 5, 2) := by decide +kernel
theorem dX5_wordOf_61 : decode cX5_wordOf 61 = .ok (.goto 45, 3) := by decide +kernel
theorem dX5_wordOf_64 : decode cX5_wordOf 64 = .ok (.iload 5, 2) := by decide +kernel
theorem dX5_wordOf_66 : decode cX5_wordOf 66 = .ok (.ifCond .eq 34, 3) := by decide +kernel
theorem dX5_wordOf_69 : decode cX5_wordOf 69 = .ok (.iload 4, 2) := by decide +kernel
theorem dX5_wordOf_71 : decode cX5_wordOf 71 = .ok (.iload_n 2, 1) := by decide +kernel
theorem dX5_wordOf_72 : decode cX5_wordOf 72 = .ok (.if_icmp .ge 28, 3) := by decide +kernel
theorem dX5_wordOf_75 : decode cX5_wordOf 75 = .ok (.iload 4, 2) := by decide +kernel
theorem dX5_wordOf_77 : decode cX5_wordOf 77 = .ok (.aload_n 0, 1) := by decide +kernel
theorem dX5_wordOf_78 : decode cX5_wordOf 78 = .ok (.getfield 19, 3) := by decide +kernel
theorem dX5_wordOf_81 : decode cX5_wordOf 81 = .ok (.if_icmp .ge 19, 3) := by decide +kernel
theorem dX5_wordOf_84 : decode cX5_wordOf 84 = .ok (.aload_n 0, 1) := by decide +kernel
theorem dX5_wordOf_85 : decode cX5_wordOf 85 = .ok (.getfield 9, 3) := by decide +kernel
theorem dX5_wordOf_88 : decode cX5_wordOf 88 = .ok (.iload 4, 2) := by decide +kernel
theorem dX5_wordOf_90 : decode cX5_wordOf 90 = .ok (.iaload, 1) := by decide +kernel
theorem dX5_wordOf_91 : decode cX5_wordOf 91 = .ok (.iload 7, 2) := by decide +kernel
theorem dX5_wordOf_93 : decode cX5_wordOf 93 = .ok (.if_icmp .ne 7, 3) := by decide +kernel
theorem dX5_wordOf_96 : decode cX5_wordOf 96 = .ok (.iconst 1, 1) := by decide +kernel
theorem dX5_wordOf_97 : decode cX5_wordOf 97 = .ok (.goto 4, 3) := by decide +kernel
theorem dX5_wordOf_100 : decode cX5_wordOf 100 = .ok (.iconst 0, 1) := by decide +kernel
theorem dX5_wordOf_101 : decode cX5_wordOf 101 = .ok (.istore 5, 2) := by decide +kernel
theorem dX5_wordOf_103 : decode cX5_wordOf 103 = .ok (.iinc 4 1, 3) := by decide +kernel
theorem dX5_wordOf_106 : decode cX5_wordOf 106 = .ok (.iinc 6 1, 3) := by decide +kernel
theorem dX5_wordOf_109 : decode cX5_wordOf 109 = .ok (.goto (-96), 3) := by decide +kernel
theorem dX5_wordOf_112 : decode cX5_wordOf 112 = .ok (.iload 5, 2) := by decide +kernel
theorem dX5_wordOf_114 : decode cX5_wordOf 114 = .ok (.ifCond .eq 13, 3) := by decide +kernel
theorem dX5_wordOf_117 : decode cX5_wordOf 117 = .ok (.iload 4, 2) := by decide +kernel
theorem dX5_wordOf_119 : decode cX5_wordOf 119 = .ok (.iload_n 2, 1) := by decide +kernel
theorem dX5_wordOf_120 : decode cX5_wordOf 120 = .ok (.if_icmp .ne 7, 3) := by decide +kernel
theorem dX5_wordOf_123 : decode cX5_wordOf 123 = .ok (.iload_n 3, 1) := by decide +kernel
theorem dX5_wordOf_124 : decode cX5_wordOf 124 = .ok (.goto 4, 3) := by decide +kernel
theorem dX5_wordOf_127 : decode cX5_wordOf 127 = .ok (.iconst 3, 1) := by decide +kernel
theorem dX5_wordOf_128 : decode cX5_wordOf 128 = .ok (.ireturn, 1) := by decide +kernel
theorem dX5_wrong_0 : decode cX5_wrong 0 = .ok (.aload_n 0, 1) := by decide +kernel
theorem dX5_wrong_1 : decode cX5_wrong 1 = .ok (.iload_n 1, 1) := by decide +kernel
theorem dX5_wrong_2 : decode cX5_wrong 2 = .ok (.putfield 34, 3) := by decide +kernel
theorem dX5_wrong_5 : decode cX5_wrong 5 = .ok (.aload_n 0, 1) := by decide +kernel
theorem dX5_wrong_6 : decode cX5_wrong 6 = .ok (.aload_n 0, 1) := by decide +kernel
theorem dX5_wrong_7 : decode cX5_wrong 7 = .ok (.getfield 22, 3) := by decide +kernel
theorem dX5_wrong_10 : decode cX5_wrong 10 = .ok (.putfield 37, 3) := by decide +kernel
theorem dX5_wrong_13 : decode cX5_wrong 13 = .ok (.iconst 0, 1) := by decide +kernel
theorem dX5_wrong_14 : decode cX5_wrong 14 = .ok (.ireturn, 1) := by decide +kernel
theorem dX5_sign_0 : decode cX5_sign 0 = .ok (.aload_n 0, 1) := by decide +kernel
theorem dX5_sign_1 : decode cX5_sign 1 = .ok (.getfield 28, 3) := by decide +kernel
theorem dX5_sign_4 : decode cX5_sign 4 = .ok (.iload_n 1, 1) := by decide +kernel
theorem dX5_sign_5 : decode cX5_sign 5 = .ok (.if_icmp .eq 9, 3) := by decide +kernel
theorem dX5_sign_8 : decode cX5_sign 8 = .ok (.aload_n 0, 1) := by decide +kernel
theorem dX5_sign_9 : decode cX5_sign 9 = .ok (.iconst 1, 1) := by decide +kernel
theorem dX5_sign_10 : decode cX5_sign 10 = .ok (.invokevirtual 104, 3) := by decide +kernel
theorem dX5_sign_13 : decode cX5_sign 13 = .ok (.ireturn, 1) := by decide +kernel
theorem dX5_sign_14 : decode cX5_sign 14 = .ok (.aload_n 0, 1) := by decide +kernel
theorem dX5_sign_15 : decode cX5_sign 15 = .ok (.invokevirtual 55, 3) := by decide +kernel
theorem dX5_sign_18 : decode cX5_sign 18 = .ok (.iconst 1, 1) := by decide +kernel
theorem dX5_sign_19 : decode cX5_sign 19 = .ok (.ireturn, 1) := by decide +kernel
theorem dX5_bounded_0 : decode cX5_bounded 0 = .ok (.aload_n 0, 1) := by decide +kernel
theorem dX5_bounded_1 : decode cX5_bounded 1 = .ok (.getfield 28, 3) := by decide +kernel
theorem dX5_bounded_4 : decode cX5_bounded 4 = .ok (.iconst 1, 1) := by decide +kernel
theorem dX5_bounded_5 : decode cX5_bounded 5 = .ok (.if_icmp .eq 9, 3) := by decide +kernel
theorem dX5_bounded_8 : decode cX5_bounded 8 = .ok (.aload_n 0, 1) := by decide +kernel
theorem dX5_bounded_9 : decode cX5_bounded 9 = .ok (.iconst 1, 1) := by decide +kernel
theorem dX5_bounded_10 : decode cX5_bounded 10 = .ok (.invokevirtual 104, 3) := by decide +kernel
theorem dX5_bounded_13 : decode cX5_bounded 13 = .ok (.ireturn, 1) := by decide +kernel
theorem dX5_bounded_14 : decode cX5_bounded 14 = .ok (.aload_n 0, 1) := by decide +kernel
theorem dX5_bounded_15 : decode cX5_bounded 15 = .ok (.getfield 31, 3) := by decide +kernel
theorem dX5_bounded_18 : decode cX5_bounded 18 = .ok (.iload_n 2, 1) := by decide +kernel
theorem dX5_bounded_19 : decode cX5_bounded 19 = .ok (.if_icmp .le 9, 3) := by decide +kernel
theorem dX5_bounded_22 : decode cX5_bounded 22 = .ok (.aload_n 0, 1) := by decide +kernel
theorem dX5_bounded_23 : decode cX5_bounded 23 = .ok (.iconst 2, 1) := by decide +kernel
theorem dX5_bounded_24 : decode cX5_bounded 24 = .ok (.invokevirtual 104, 3) := by decide +kernel
theorem dX5_bounded_27 : decode cX5_bounded 27 = .ok (.ireturn, 1) := by decide +kernel
theorem dX5_bounded_28 : decode cX5_bounded 28 = .ok (.aload_n 0, 1) := by decide +kernel
theorem dX5_bounded_29 : decode cX5_bounded 29 = .ok (.iload_n 1, 1) := by decide +kernel
theorem dX5_bounded_30 : decode cX5_bounded 30 = .ok (.aload_n 0, 1) := by decide +kernel
theorem dX5_bounded_31 : decode cX5_bounded 31 = .ok (.getfield 31, 3) := by decide +kernel
theorem dX5_bounded_34 : decode cX5_bounded 34 = .ok (.invokevirtual 107, 3) := by decide +kernel
theorem dX5_bounded_37 : decode cX5_bounded 37 = .ok (.aload_n 0, 1) := by decide +kernel
theorem dX5_bounded_38 : decode cX5_bounded 38 = .ok (.invokevirtual 55, 3) := by decide +kernel
theorem dX5_bounded_41 : decode cX5_bounded 41 = .ok (.iconst 1, 1) := by decide +kernel
theorem dX5_bounded_42 : decode cX5_bounded 42 = .ok (.ireturn, 1) := by decide +kernel
theorem dX5_put_0 : decode cX5_put 0 = .ok (.aload_n 0, 1) := by decide +kernel
theorem dX5_put_1 : decode cX5_put 1 = .ok (.getfield 46, 3) := by decide +kernel
theorem dX5_put_4 : decode cX5_put 4 = .ok (.ifCond .lt 35, 3) := by decide +kernel
theorem dX5_put_7 : decode cX5_put 7 = .ok (.aload_n 0, 1) := by decide +kernel
theorem dX5_put_8 : decode cX5_put 8 = .ok (.getfield 46, 3) := by decide +kernel
theorem dX5_put_11 : decode cX5_put 11 = .ok (.bipush 16, 2) := by decide +kernel
theorem dX5_put_13 : decode cX5_put 13 = .ok (.if_icmp .ge 26, 3) := by decide +kernel
theorem dX5_put_16 : decode cX5_put 16 = .ok (.iload_n 1, 1) := by decide +kernel
theorem dX5_put_17 : decode cX5_put 17 = .ok (.ifCond .lt 22, 3) := by decide +kernel
theorem dX5_put_20 : decode cX5_put 20 = .ok (.iload_n 1, 1) := by decide +kernel
theorem dX5_put_21 : decode cX5_put 21 = .ok (.iconst 5, 1) := by decide +kernel
theorem dX5_put_22 : decode cX5_put 22 = .ok (.if_icmp .ge 17, 3) := by decide +kernel
theorem dX5_put_25 : decode cX5_put 25 = .ok (.aload_n 0, 1) := by decide +kernel
theorem dX5_put_26 : decode cX5_put 26 = .ok (.getfield 43, 3) := by decide +kernel
theorem dX5_put_29 : decode cX5_put 29 = .ok (.aload_n 0, 1) := by decide +kernel
theorem dX5_put_30 : decode cX5_put 30 = .ok (.getfield 46, 3) := by decide +kernel
theorem dX5_put_33 : decode cX5_put 33 = .ok (.iconst 5, 1) := by decide +kernel
theorem dX5_put_34 : decode cX5_put 34 = .ok (.imul, 1) := by decide +kernel
theorem dX5_put_35 : decode cX5_put 35 = .ok (.iload_n 1, 1) := by decide +kernel
theorem dX5_put_36 : decode cX5_put 36 = .ok (.iadd, 1) := by decide +kernel
theorem dX5_put_37 : decode cX5_put 37 = .ok (.iload_n 2, 1) := by decide +kernel
theorem dX5_put_38 : decode cX5_put 38 = .ok (.iastore, 1) := by decide +kernel
theorem dX5_put_39 : decode cX5_put 39 = .ok (.return_, 1) := by decide +kernel
theorem dX5_opensLine_0 : decode cX5_opensLine 0 = .ok (.iload_n 1, 1) := by decide +kernel
theorem dX5_opensLine_1 : decode cX5_opensLine 1 = .ok (.ifCond .ne 42, 3) := by decide +kernel
theorem dX5_opensLine_4 : decode cX5_opensLine 4 = .ok (.aload_n 0, 1) := by decide +kernel
theorem dX5_opensLine_5 : decode cX5_opensLine 5 = .ok (.getfield 28, 3) := by decide +kernel
theorem dX5_opensLine_8 : decode cX5_opensLine 8 = .ok (.sipush 300, 3) := by decide +kernel
theorem dX5_opensLine_11 : decode cX5_opensLine 11 = .ok (.if_icmp .eq 23, 3) := by decide +kernel
theorem dX5_opensLine_14 : decode cX5_opensLine 14 = .ok (.aload_n 0, 1) := by decide +kernel
theorem dX5_opensLine_15 : decode cX5_opensLine 15 = .ok (.getfield 28, 3) := by decide +kernel
theorem dX5_opensLine_18 : decode cX5_opensLine 18 = .ok (.sipush 301, 3) := by decide +kernel
theorem dX5_opensLine_21 : decode cX5_opensLine 21 = .ok (.if_icmp .eq 13, 3) := by decide +kernel
theorem dX5_opensLine_24 : decode cX5_opensLine 24 = .ok (.aload_n 0, 1) := by decide +kernel
theorem dX5_opensLine_25 : decode cX5_opensLine 25 = .ok (.getfield 28, 3) := by decide +kernel
theorem dX5_opensLine_28 : decode cX5_opensLine 28 = .ok (.sipush 302, 3) := by decide +kernel
theorem dX5_opensLine_31 : decode cX5_opensLine 31 = .ok (.if_icmp .ne 7, 3) := by decide +kernel
theorem dX5_opensLine_34 : decode cX5_opensLine 34 = .ok (.iconst 1, 1) := by decide +kernel
theorem dX5_opensLine_35 : decode cX5_opensLine 35 = .ok (.goto 4, 3) := by decide +kernel
theorem dX5_opensLine_38 : decode cX5_opensLine 38 = .ok (.iconst 0, 1) := by decide +kernel
theorem dX5_opensLine_39 : decode cX5_opensLine 39 = .ok (.istore_n 2, 1) := by decide +kernel
theorem dX5_opensLine_40 : decode cX5_opensLine 40 = .ok (.goto 30, 3) := by decide +kernel
theorem dX5_opensLine_43 : decode cX5_opensLine 43 = .ok (.aload_n 0, 1) := by decide +kernel
theorem dX5_opensLine_44 : decode cX5_opensLine 44 = .ok (.getfield 28, 3) := by decide +kernel
theorem dX5_opensLine_47 : decode cX5_opensLine 47 = .ok (.iload_n 1, 1) := by decide +kernel
theorem dX5_opensLine_48 : decode cX5_opensLine 48 = .ok (.iconst 2, 1) := by decide +kernel
theorem dX5_opensLine_49 : decode cX5_opensLine 49 = .ok (.if_icmp .ne 9, 3) := by decide +kernel
theorem dX5_opensLine_52 : decode cX5_opensLine 52 = .ok (.sipush 320, 3) := by decide +kernel
theorem dX5_opensLine_55 : decode cX5_opensLine 55 = .ok (.goto 6, 3) := by decide +kernel
theorem dX5_opensLine_58 : decode cX5_opensLine 58 = .ok (.sipush 317, 3) := by decide +kernel
theorem dX5_opensLine_61 : decode cX5_opensLine 61 = .ok (.if_icmp .ne 7, 3) := by decide +kernel
theorem dX5_opensLine_64 : decode cX5_opensLine 64 = .ok (.iconst 1, 1) := by decide +kernel
theorem dX5_opensLine_65 : decode cX5_opensLine 65 = .ok (.goto 4, 3) := by decide +kernel
theorem dX5_opensLine_68 : decode cX5_opensLine 68 = .ok (.iconst 0, 1) := by decide +kernel
theorem dX5_opensLine_69 : decode cX5_opensLine 69 = .ok (.istore_n 2, 1) := by decide +kernel
theorem dX5_opensLine_70 : decode cX5_opensLine 70 = .ok (.iload_n 2, 1) := by decide +kernel
theorem dX5_opensLine_71 : decode cX5_opensLine 71 = .ok (.ifCond .ne 9, 3) := by decide +kernel
theorem dX5_opensLine_74 : decode cX5_opensLine 74 = .ok (.aload_n 0, 1) := by decide +kernel
theorem dX5_opensLine_75 : decode cX5_opensLine 75 = .ok (.iconst 1, 1) := by decide +kernel
theorem dX5_opensLine_76 : decode cX5_opensLine 76 = .ok (.invokevirtual 104, 3) := by decide +kernel
theorem dX5_opensLine_79 : decode cX5_opensLine 79 = .ok (.ireturn, 1) := by decide +kernel
theorem dX5_opensLine_80 : decode cX5_opensLine 80 = .ok (.aload_n 0, 1) := by decide +kernel
theorem dX5_opensLine_81 : decode cX5_opensLine 81 = .ok (.getfield 46, 3) := by decide +kernel
theorem dX5_opensLine_84 : decode cX5_opensLine 84 = .ok (.bipush 16, 2) := by decide +kernel
theorem dX5_opensLine_86 : decode cX5_opensLine 86 = .ok (.if_icmp .lt 9, 3) := by decide +kernel
theorem dX5_opensLine_89 : decode cX5_opensLine 89 = .ok (.aload_n 0, 1) := by decide +kernel
theorem dX5_opensLine_90 : decode cX5_opensLine 90 = .ok (.iconst 3, 1) := by decide +kernel
theorem dX5_opensLine_91 : decode cX5_opensLine 91 = .ok (.invokevirtual 104, 3) := by decide +kernel
theorem dX5_opensLine_94 : decode cX5_opensLine 94 = .ok (.ireturn, 1) := by decide +kernel
theorem dX5_opensLine_95 : decode cX5_opensLine 95 = .ok (.aload_n 0, 1) := by decide +kernel
theorem dX5_opensLine_96 : decode cX5_opensLine 96 = .ok (.iconst 0, 1) := by decide +kernel
theorem dX5_opensLine_97 : decode cX5_opensLine 97 = .ok (.aload_n 0, 1) := by decide +kernel
theorem dX5_opensLine_98 : decode cX5_opensLine 98 = .ok (.getfield 28, 3) := by decide +kernel
theorem dX5_opensLine_101 : decode cX5_opensLine 101 = .ok (.invokevirtual 107, 3) := by decide +kernel
theorem dX5_opensLine_104 : decode cX5_opensLine 104 = .ok (.aload_n 0, 1) := by decide +kernel
theorem dX5_opensLine_105 : decode cX5_opensLine 105 = .ok (.invokevirtual 55, 3) := by decide +kernel
theorem dX5_opensLine_108 : decode cX5_opensLine 108 = .ok (.iconst 1, 1) := by decide +kernel
theorem dX5_opensLine_109 : decode cX5_opensLine 109 = .ok (.ireturn, 1) := by decide +kernel
theorem dX5_plainLine_0 : decode cX5_plainLine 0 = .ok (.iload_n 1, 1) := by decide +kernel
theorem dX5_plainLine_1 : decode cX5_plainLine 1 = .ok (.iconst 2, 1) := by decide +kernel
theorem dX5_plainLine_2 : decode cX5_plainLine 2 = .ok (.if_icmp .ne 27, 3) := by decide +kernel
theorem dX5_plainLine_5 : decode cX5_plainLine 5 = .ok (.aload_n 0, 1) := by decide +kernel
theorem dX5_plainLine_6 : decode cX5_plainLine 6 = .ok (.iconst 0, 1) := by decide +kernel
theorem dX5_plainLine_7 : decode cX5_plainLine 7 = .ok (.sipush 999, 3) := by decide +kernel
theorem dX5_plainLine_10 : decode cX5_plainLine 10 = .ok (.invokevirtual 111, 3) := by decide +kernel
theorem dX5_plainLine_13 : decode cX5_plainLine 13 = .ok (.ifCond .eq 14, 3) := by decide +kernel
theorem dX5_plainLine_16 : decode cX5_plainLine 16 = .ok (.aload_n 0, 1) := by decide +kernel
theorem dX5_plainLine_17 : decode cX5_plainLine 17 = .ok (.invokevirtual 115, 3) := by decide +kernel
theorem dX5_plainLine_20 : decode cX5_plainLine 20 = .ok (.ifCond .eq 7, 3) := by decide +kernel
theorem dX5_plainLine_23 : decode cX5_plainLine 23 = .ok (.iconst 1, 1) := by decide +kernel
theorem dX5_plainLine_24 : decode cX5_plainLine 24 = .ok (.goto 4, 3) := by decide +kernel
theorem dX5_plainLine_27 : decode cX5_plainLine 27 = .ok (.iconst 0, 1) := by decide +kernel
theorem dX5_plainLine_28 : decode cX5_plainLine 28 = .ok (.ireturn, 1) := by decide +kernel
theorem dX5_plainLine_29 : decode cX5_plainLine 29 = .ok (.aload_n 0, 1) := by decide +kernel
theorem dX5_plainLine_30 : decode cX5_plainLine 30 = .ok (.getfield 31, 3) := by decide +kernel
theorem dX5_plainLine_33 : decode cX5_plainLine 33 = .ok (.istore_n 2, 1) := by decide +kernel
theorem dX5_plainLine_34 : decode cX5_plainLine 34 = .ok (.aload_n 0, 1) := by decide +kernel
theorem dX5_plainLine_35 : decode cX5_plainLine 35 = .ok (.iconst 0, 1) := by decide +kernel
theorem dX5_plainLine_36 : decode cX5_plainLine 36 = .ok (.aload_n 0, 1) := by decide +kernel
theorem dX5_plainLine_37 : decode cX5_plainLine 37 = .ok (.getfield 40, 3) := by decide +kernel
theorem dX5_plainLine_40 : decode cX5_plainLine 40 = .ok (.iconst 1, 1) := by decide +kernel
theorem dX5_plainLine_41 : decode cX5_plainLine 41 = .ok (.isub, 1) := by decide +kernel
theorem dX5_plainLine_42 : decode cX5_plainLine 42 = .ok (.invokevirtual 111, 3) := by decide +kernel
theorem dX5_plainLine_45 : decode cX5_plainLine 45 = .ok (.ifCond .ne 5, 3) := by decide +kernel
theorem dX5_plainLine_48 : decode cX5_plainLine 48 = .ok (.iconst 0, 1) := by decide +kernel
theorem dX5_plainLine_49 : decode cX5_plainLine 49 = .ok (.ireturn, 1) := by decide +kernel
theorem dX5_plainLine_50 : decode cX5_plainLine 50 = .ok (.iload_n 1, 1) := by decide +kernel
theorem dX5_plainLine_51 : decode cX5_plainLine 51 = .ok (.iconst 1, 1) := by decide +kernel
theorem dX5_plainLine_52 : decode cX5_plainLine 52 = .ok (.if_icmp .ne 49, 3) := by decide +kernel
theorem dX5_plainLine_55 : decode cX5_plainLine 55 = .ok (.aload_n 0, 1) := by decide +kernel
theorem dX5_plainLine_56 : decode cX5_plainLine 56 = .ok (.sipush 318, 3) := by decide +kernel
theorem dX5_plainLine_59 : decode cX5_plainLine 59 = .ok (.invokevirtual 69, 3) := by decide +kernel
theorem dX5_plainLine_62 : decode cX5_plainLine 62 = .ok (.ifCond .eq 37, 3) := by decide +kernel
theorem dX5_plainLine_65 : decode cX5_plainLine 65 = .ok (.aload_n 0, 1) := by decide +kernel
theorem dX5_plainLine_66 : decode cX5_plainLine 66 = .ok (.iconst 1, 1) := by decide +kernel
theorem dX5_plainLine_67 : decode cX5_plainLine 67 = .ok (.bipush 11, 2) := by decide +kernel
theorem dX5_plainLine_69 : decode cX5_plainLine 69 = .ok (.invokevirtual 111, 3) := by decide +kernel
theorem dX5_plainLine_72 : decode cX5_plainLine 72 = .ok (.ifCond .eq 27, 3) := by decide +kernel
theorem dX5_plainLine_75 : decode cX5_plainLine 75 = .ok (.aload_n 0, 1) := by decide +kernel
theorem dX5_plainLine_76 : decode cX5_plainLine 76 = .ok (.sipush 319, 3) := by decide +kernel
theorem dX5_plainLine_79 : decode cX5_plainLine 79 = .ok (.invokevirtual 69, 3) := by decide +kernel
theorem dX5_plainLine_82 : decode cX5_plainLine 82 = .ok (.ifCond .eq 17, 3) := by decide +kernel
theorem dX5_plainLine_85 : decode cX5_plainLine 85 = .ok (.aload_n 0, 1) := by decide +kernel
theorem dX5_plainLine_86 : decode cX5_plainLine 86 = .ok (.iconst 2, 1) := by decide +kernel
theorem dX5_plainLine_87 : decode cX5_plainLine 87 = .ok (.bipush 11, 2) := by decide +kernel
theorem dX5_plainLine_89 : decode cX5_plainLine 89 = .ok (.invokevirtual 111, 3) := by decide +kernel
theorem dX5_plainLine_92 : decode cX5_plainLine 92 = .ok (.ifCond .eq 7, 3) := by decide +kernel
theorem dX5_plainLine_95 : decode cX5_plainLine 95 = .ok (.iconst 1, 1) := by decide +kernel
theorem dX5_plainLine_96 : decode cX5_plainLine 96 = .ok (.goto 4, 3) := by decide +kernel
theorem dX5_plainLine_99 : decode cX5_plainLine 99 = .ok (.iconst 0, 1) := by decide +kernel
theorem dX5_plainLine_100 : decode cX5_plainLine 100 = .ok (.ireturn, 1) := by decide +kernel
theorem dX5_plainLine_101 : decode cX5_plainLine 101 = .ok (.aload_n 0, 1) := by decide +kernel
theorem dX5_plainLine_102 : decode cX5_plainLine 102 = .ok (.sipush 325, 3) := by decide +kernel
theorem dX5_plainLine_105 : decode cX5_plainLine 105 = .ok (.invokevirtual 69, 3) := by decide +kernel
theorem dX5_plainLine_108 : decode cX5_plainLine 108 = .ok (.ifCond .ne 5, 3) := by decide +kernel
theorem dX5_plainLine_111 : decode cX5_plainLine 111 = .ok (.iconst 0, 1) := by decide +kernel
theorem dX5_plainLine_112 : decode cX5_plainLine 112 = .ok (.ireturn, 1) := by decide +kernel
theorem dX5_plainLine_113 : decode cX5_plainLine 113 = .ok (.aload_n 0, 1) := by decide +kernel
theorem dX5_plainLine_114 : decode cX5_plainLine 114 = .ok (.getfield 28, 3) := by decide +kernel
theorem dX5_plainLine_117 : decode cX5_plainLine 117 = .ok (.iconst 1, 1) := by decide +kernel
theorem dX5_plainLine_118 : decode cX5_plainLine 118 = .ok (.if_icmp .ne 17, 3) := by decide +kernel
theorem dX5_plainLine_121 : decode cX5_plainLine 121 = .ok (.aload_n 0, 1) := by decide +kernel
theorem dX5_plainLine_122 : decode cX5_plainLine 122 = .ok (.getfield 31, 3) := by decide +kernel
theorem dX5_plainLine_125 : decode cX5_plainLine 125 = .ok (.iload_n 2, 1) := by decide +kernel
theorem dX5_plainLine_126 : decode cX5_plainLine 126 = .ok (.if_icmp .ne 9, 3) := by decide +kernel
theorem dX5_plainLine_129 : decode cX5_plainLine 129 = .ok (.aload_n 0, 1) := by decide +kernel
theorem dX5_plainLine_130 : decode cX5_plainLine 130 = .ok (.iconst 2, 1) := by decide +kernel
theorem dX5_plainLine_131 : decode cX5_plainLine 131 = .ok (.invokevirtual 104, 3) := by decide +kernel
theorem dX5_plainLine_134 : decode cX5_plainLine 134 = .ok (.ireturn, 1) := by decide +kernel
theorem dX5_plainLine_135 : decode cX5_plainLine 135 = .ok (.aload_n 0, 1) := by decide +kernel
theorem dX5_plainLine_136 : decode cX5_plainLine 136 = .ok (.iconst 1, 1) := by decide +kernel
theorem dX5_plainLine_137 : decode cX5_plainLine 137 = .ok (.aload_n 0, 1) := by decide +kernel
theorem dX5_plainLine_138 : decode cX5_plainLine 138 = .ok (.getfield 40, 3) := by decide +kernel
theorem dX5_plainLine_141 : decode cX5_plainLine 141 = .ok (.iconst 1, 1) := by decide +kernel
theorem dX5_plainLine_142 : decode cX5_plainLine 142 = .ok (.isub, 1) := by decide +kernel
theorem dX5_plainLine_143 : decode cX5_plainLine 143 = .ok (.invokevirtual 111, 3) := by decide +kernel
theorem dX5_plainLine_146 : decode cX5_plainLine 146 = .ok (.ireturn, 1) := by decide +kernel
theorem dX5_skyLine_0 : decode cX5_skyLine 0 = .ok (.aload_n 0, 1) := by decide +kernel
theorem dX5_skyLine_1 : decode cX5_skyLine 1 = .ok (.iconst 1, 1) := by decide +kernel
theorem dX5_skyLine_2 : decode cX5_skyLine 2 = .ok (.aload_n 0, 1) := by decide +kernel
theorem dX5_skyLine_3 : decode cX5_skyLine 3 = .ok (.getfield 28, 3) := by decide +kernel
theorem dX5_skyLine_6 : decode cX5_skyLine 6 = .ok (.invokevirtual 107, 3) := by decide +kernel
theorem dX5_skyLine_9 : decode cX5_skyLine 9 = .ok (.aload_n 0, 1) := by decide +kernel
theorem dX5_skyLine_10 : decode cX5_skyLine 10 = .ok (.getfield 28, 3) := by decide +kernel
theorem dX5_skyLine_13 : decode cX5_skyLine 13 = .ok (.sipush 307, 3) := by decide +kernel
theorem dX5_skyLine_16 : decode cX5_skyLine 16 = .ok (.if_icmp .ne 43, 3) := by decide +kernel
theorem dX5_skyLine_19 : decode cX5_skyLine 19 = .ok (.aload_n 0, 1) := by decide +kernel
theorem dX5_skyLine_20 : decode cX5_skyLine 20 = .ok (.invokevirtual 55, 3) := by decide +kernel
theorem dX5_skyLine_23 : decode cX5_skyLine 23 = .ok (.aload_n 0, 1) := by decide +kernel
theorem dX5_skyLine_24 : decode cX5_skyLine 24 = .ok (.iconst 3, 1) := by decide +kernel
theorem dX5_skyLine_25 : decode cX5_skyLine 25 = .ok (.bipush 9, 2) := by decide +kernel
theorem dX5_skyLine_27 : decode cX5_skyLine 27 = .ok (.invokevirtual 111, 3) := by decide +kernel
theorem dX5_skyLine_30 : decode cX5_skyLine 30 = .ok (.ifCond .eq 27, 3) := by decide +kernel
theorem dX5_skyLine_33 : decode cX5_skyLine 33 = .ok (.aload_n 0, 1) := by decide +kernel
theorem dX5_skyLine_34 : decode cX5_skyLine 34 = .ok (.sipush 318, 3) := by decide +kernel
theorem dX5_skyLine_37 : decode cX5_skyLine 37 = .ok (.invokevirtual 69, 3) := by decide +kernel
theorem dX5_skyLine_40 : decode cX5_skyLine 40 = .ok (.ifCond .eq 17, 3) := by decide +kernel
theorem dX5_skyLine_43 : decode cX5_skyLine 43 = .ok (.aload_n 0, 1) := by decide +kernel
theorem dX5_skyLine_44 : decode cX5_skyLine 44 = .ok (.iconst 2, 1) := by decide +kernel
theorem dX5_skyLine_45 : decode cX5_skyLine 45 = .ok (.bipush 11, 2) := by decide +kernel
theorem dX5_skyLine_47 : decode cX5_skyLine 47 = .ok (.invokevirtual 111, 3) := by decide +kernel
theorem dX5_skyLine_50 : decode cX5_skyLine 50 = .ok (.ifCond .eq 7, 3) := by decide +kernel
theorem dX5_skyLine_53 : decode cX5_skyLine 53 = .ok (.iconst 1, 1) := by decide +kernel
theorem dX5_skyLine_54 : decode cX5_skyLine 54 = .ok (.goto 4, 3) := by decide +kernel
theorem dX5_skyLine_57 : decode cX5_skyLine 57 = .ok (.iconst 0, 1) := by decide +kernel
theorem dX5_skyLine_58 : decode cX5_skyLine 58 = .ok (.ireturn, 1) := by decide +kernel
theorem dX5_skyLine_59 : decode cX5_skyLine 59 = .ok (.aload_n 0, 1) := by decide +kernel
theorem dX5_skyLine_60 : decode cX5_skyLine 60 = .ok (.getfield 28, 3) := by decide +kernel
theorem dX5_skyLine_63 : decode cX5_skyLine 63 = .ok (.sipush 321, 3) := by decide +kernel
theorem dX5_skyLine_66 : decode cX5_skyLine 66 = .ok (.if_icmp .ne 53, 3) := by decide +kernel
theorem dX5_skyLine_69 : decode cX5_skyLine 69 = .ok (.aload_n 0, 1) := by decide +kernel
theorem dX5_skyLine_70 : decode cX5_skyLine 70 = .ok (.invokevirtual 55, 3) := by decide +kernel
theorem dX5_skyLine_73 : decode cX5_skyLine 73 = .ok (.aload_n 0, 1) := by decide +kernel
theorem dX5_skyLine_74 : decode cX5_skyLine 74 = .ok (.sipush 318, 3) := by decide +kernel
theorem dX5_skyLine_77 : decode cX5_skyLine 77 = .ok (.invokevirtual 69, 3) := by decide +kernel
theorem dX5_skyLine_80 : decode cX5_skyLine 80 = .ok (.ifCond .eq 37, 3) := by decide +kernel
theorem dX5_skyLine_83 : decode cX5_skyLine 83 = .ok (.aload_n 0, 1) := by decide +kernel
theorem dX5_skyLine_84 : decode cX5_skyLine 84 = .ok (.iconst 2, 1) := by decide +kernel
theorem dX5_skyLine_85 : decode cX5_skyLine 85 = .ok (.bipush 11, 2) := by decide +kernel
theorem dX5_skyLine_87 : decode cX5_skyLine 87 = .ok (.invokevirtual 111, 3) := by decide +kernel
theorem dX5_skyLine_90 : decode cX5_skyLine 90 = .ok (.ifCond .eq 27, 3) := by decide +kernel
theorem dX5_skyLine_93 : decode cX5_skyLine 93 = .ok (.aload_n 0, 1) := by decide +kernel
theorem dX5_skyLine_94 : decode cX5_skyLine 94 = .ok (.iconst 3, 1) := by decide +kernel
theorem dX5_skyLine_95 : decode cX5_skyLine 95 = .ok (.bipush 11, 2) := by decide +kernel
theorem dX5_skyLine_97 : decode cX5_skyLine 97 = .ok (.invokevirtual 111, 3) := by decide +kernel
theorem dX5_skyLine_100 : decode cX5_skyLine 100 = .ok (.ifCond .eq 17, 3) := by decide +kernel
theorem dX5_skyLine_103 : decode cX5_skyLine 103 = .ok (.aload_n 0, 1) := by decide +kernel
theorem dX5_skyLine_104 : decode cX5_skyLine 104 = .ok (.iconst 4, 1) := by decide +kernel
theorem dX5_skyLine_105 : decode cX5_skyLine 105 = .ok (.bipush 11, 2) := by decide +kernel
theorem dX5_skyLine_107 : decode cX5_skyLine 107 = .ok (.invokevirtual 111, 3) := by decide +kernel
theorem dX5_skyLine_110 : decode cX5_skyLine 110 = .ok (.ifCond .eq 7, 3) := by decide +kernel
theorem dX5_skyLine_113 : decode cX5_skyLine 113 = .ok (.iconst 1, 1) := by decide +kernel
theorem dX5_skyLine_114 : decode cX5_skyLine 114 = .ok (.goto 4, 3) := by decide +kernel
theorem dX5_skyLine_117 : decode cX5_skyLine 117 = .ok (.iconst 0, 1) := by decide +kernel
theorem dX5_skyLine_118 : decode cX5_skyLine 118 = .ok (.ireturn, 1) := by decide +kernel
theorem dX5_skyLine_119 : decode cX5_skyLine 119 = .ok (.aload_n 0, 1) := by decide +kernel
theorem dX5_skyLine_120 : decode cX5_skyLine 120 = .ok (.getfield 28, 3) := by decide +kernel
theorem dX5_skyLine_123 : decode cX5_skyLine 123 = .ok (.sipush 303, 3) := by decide +kernel
theorem dX5_skyLine_126 : decode cX5_skyLine 126 = .ok (.if_icmp .ne 40, 3) := by decide +kernel
theorem dX5_skyLine_129 : decode cX5_skyLine 129 = .ok (.aload_n 0, 1) := by decide +kernel
theorem dX5_skyLine_130 : decode cX5_skyLine 130 = .ok (.invokevirtual 55, 3) := by decide +kernel
theorem dX5_skyLine_133 : decode cX5_skyLine 133 = .ok (.aload_n 0, 1) := by decide +kernel
theorem dX5_skyLine_134 : decode cX5_skyLine 134 = .ok (.iconst 2, 1) := by decide +kernel
theorem dX5_skyLine_135 : decode cX5_skyLine 135 = .ok (.iconst 0, 1) := by decide +kernel
theorem dX5_skyLine_136 : decode cX5_skyLine 136 = .ok (.invokevirtual 107, 3) := by decide +kernel
theorem dX5_skyLine_139 : decode cX5_skyLine 139 = .ok (.aload_n 0, 1) := by decide +kernel
theorem dX5_skyLine_140 : decode cX5_skyLine 140 = .ok (.iconst 3, 1) := by decide +kernel
theorem dX5_skyLine_141 : decode cX5_skyLine 141 = .ok (.aload_n 0, 1) := by decide +kernel
theorem dX5_skyLine_142 : decode cX5_skyLine 142 = .ok (.getfield 40, 3) := by decide +kernel
theorem dX5_skyLine_145 : decode cX5_skyLine 145 = .ok (.iconst 1, 1) := by decide +kernel
theorem dX5_skyLine_146 : decode cX5_skyLine 146 = .ok (.isub, 1) := by decide +kernel
theorem dX5_skyLine_147 : decode cX5_skyLine 147 = .ok (.invokevirtual 111, 3) := by decide +kernel
theorem dX5_skyLine_150 : decode cX5_skyLine 150 = .ok (.ifCond .eq 14, 3) := by decide +kernel
theorem dX5_skyLine_153 : decode cX5_skyLine 153 = .ok (.aload_n 0, 1) := by decide +kernel
theorem dX5_skyLine_154 : decode cX5_skyLine 154 = .ok (.invokevirtual 118, 3) := by decide +kernel
theorem dX5_skyLine_157 : decode cX5_skyLine 157 = .ok (.ifCond .eq 7, 3) := by decide +kernel
theorem dX5_skyLine_160 : decode cX5_skyLine 160 = .ok (.iconst 1, 1) := by decide +kernel
theorem dX5_skyLine_161 : decode cX5_skyLine 161 = .ok (.goto 4, 3) := by decide +kernel
theorem dX5_skyLine_164 : decode cX5_skyLine 164 = .ok (.iconst 0, 1) := by decide +kernel
theorem dX5_skyLine_165 : decode cX5_skyLine 165 = .ok (.ireturn, 1) := by decide +kernel
theorem dX5_skyLine_166 : decode cX5_skyLine 166 = .ok (.aload_n 0, 1) := by decide +kernel
theorem dX5_skyLine_167 : decode cX5_skyLine 167 = .ok (.iconst 1, 1) := by decide +kernel
theorem dX5_skyLine_168 : decode cX5_skyLine 168 = .ok (.invokevirtual 104, 3) := by decide +kernel
theorem dX5_skyLine_171 : decode cX5_skyLine 171 = .ok (.ireturn, 1) := by decide +kernel
theorem dX5_mindWord_0 : decode cX5_mindWord 0 = .ok (.aload_n 0, 1) := by decide +kernel
theorem dX5_mindWord_1 : decode cX5_mindWord 1 = .ok (.getfield 28, 3) := by decide +kernel
theorem dX5_mindWord_4 : decode cX5_mindWord 4 = .ok (.sipush 322, 3) := by decide +kernel
theorem dX5_mindWord_7 : decode cX5_mindWord 7 = .ok (.if_icmp .eq 29, 3) := by decide +kernel
theorem dX5_mindWord_10 : decode cX5_mindWord 10 = .ok (.aload_n 0, 1) := by decide +kernel
theorem dX5_mindWord_11 : decode cX5_mindWord 11 = .ok (.getfield 28, 3) := by decide +kernel
theorem dX5_mindWord_14 : decode cX5_mindWord 14 = .ok (.sipush 323, 3) := by decide +kernel
theorem dX5_mindWord_17 : decode cX5_mindWord 17 = .ok (.if_icmp .eq 19, 3) := by decide +kernel
theorem dX5_mindWord_20 : decode cX5_mindWord 20 = .ok (.aload_n 0, 1) := by decide +kernel
theorem dX5_mindWord_21 : decode cX5_mindWord 21 = .ok (.getfield 28, 3) := by decide +kernel
theorem dX5_mindWord_24 : decode cX5_mindWord 24 = .ok (.sipush 324, 3) := by decide +kernel
theorem dX5_mindWord_27 : decode cX5_mindWord 27 = .ok (.if_icmp .eq 9, 3) := by decide +kernel
theorem dX5_mindWord_30 : decode cX5_mindWord 30 = .ok (.aload_n 0, 1) := by decide +kernel
theorem dX5_mindWord_31 : decode cX5_mindWord 31 = .ok (.iconst 1, 1) := by decide +kernel
theorem dX5_mindWord_32 : decode cX5_mindWord 32 = .ok (.invokevirtual 104, 3) := by decide +kernel
theorem dX5_mindWord_35 : decode cX5_mindWord 35 = .ok (.ireturn, 1) := by decide +kernel
theorem dX5_mindWord_36 : decode cX5_mindWord 36 = .ok (.aload_n 0, 1) := by decide +kernel
theorem dX5_mindWord_37 : decode cX5_mindWord 37 = .ok (.getfield 28, 3) := by decide +kernel
theorem dX5_mindWord_40 : decode cX5_mindWord 40 = .ok (.sipush 322, 3) := by decide +kernel
theorem dX5_mindWord_43 : decode cX5_mindWord 43 = .ok (.if_icmp .ne 7, 3) := by decide +kernel
theorem dX5_mindWord_46 : decode cX5_mindWord 46 = .ok (.iconst 1, 1) := by decide +kernel
theorem dX5_mindWord_47 : decode cX5_mindWord 47 = .ok (.goto 4, 3) := by decide +kernel
theorem dX5_mindWord_50 : decode cX5_mindWord 50 = .ok (.iconst 0, 1) := by decide +kernel
theorem dX5_mindWord_51 : decode cX5_mindWord 51 = .ok (.istore_n 1, 1) := by decide +kernel
theorem dX5_mindWord_52 : decode cX5_mindWord 52 = .ok (.aload_n 0, 1) := by decide +kernel
theorem dX5_mindWord_53 : decode cX5_mindWord 53 = .ok (.iconst 4, 1) := by decide +kernel
theorem dX5_mindWord_54 : decode cX5_mindWord 54 = .ok (.aload_n 0, 1) := by decide +kernel
theorem dX5_mindWord_55 : decode cX5_mindWord 55 = .ok (.getfield 28, 3) := by decide +kernel
theorem dX5_mindWord_58 : decode cX5_mindWord 58 = .ok (.sipush 323, 3) := by decide +kernel
theorem dX5_mindWord_61 : decode cX5_mindWord 61 = .ok (.if_icmp .ne 7, 3) := by decide +kernel
theorem dX5_mindWord_64 : decode cX5_mindWord 64 = .ok (.iconst (-1), 1) := by decide +kernel
theorem dX5_mindWord_65 : decode cX5_mindWord 65 = .ok (.goto 4, 3) := by decide +kernel
theorem dX5_mindWord_68 : decode cX5_mindWord 68 = .ok (.iload_n 1, 1) := by decide +kernel
theorem dX5_mindWord_69 : decode cX5_mindWord 69 = .ok (.invokevirtual 107, 3) := by decide +kernel
theorem dX5_mindWord_72 : decode cX5_mindWord 72 = .ok (.aload_n 0, 1) := by decide +kernel
theorem dX5_mindWord_73 : decode cX5_mindWord 73 = .ok (.invokevirtual 55, 3) := by decide +kernel
theorem dX5_mindWord_76 : decode cX5_mindWord 76 = .ok (.iconst 1, 1) := by decide +kernel
theorem dX5_mindWord_77 : decode cX5_mindWord 77 = .ok (.ireturn, 1) := by decide +kernel
theorem dX5_lawLine_0 : decode cX5_lawLine 0 = .ok (.aload_n 0, 1) := by decide +kernel
theorem dX5_lawLine_1 : decode cX5_lawLine 1 = .ok (.iconst 1, 1) := by decide +kernel
theorem dX5_lawLine_2 : decode cX5_lawLine 2 = .ok (.aload_n 0, 1) := by decide +kernel
theorem dX5_lawLine_3 : decode cX5_lawLine 3 = .ok (.getfield 52, 3) := by decide +kernel
theorem dX5_lawLine_6 : decode cX5_lawLine 6 = .ok (.invokevirtual 107, 3) := by decide +kernel
theorem dX5_lawLine_9 : decode cX5_lawLine 9 = .ok (.aload_n 0, 1) := by decide +kernel
theorem dX5_lawLine_10 : decode cX5_lawLine 10 = .ok (.invokevirtual 121, 3) := by decide +kernel
theorem dX5_lawLine_13 : decode cX5_lawLine 13 = .ok (.ifCond .ne 5, 3) := by decide +kernel
theorem dX5_lawLine_16 : decode cX5_lawLine 16 = .ok (.iconst 0, 1) := by decide +kernel
theorem dX5_lawLine_17 : decode cX5_lawLine 17 = .ok (.ireturn, 1) := by decide +kernel
theorem dX5_lawLine_18 : decode cX5_lawLine 18 = .ok (.aload_n 0, 1) := by decide +kernel
theorem dX5_lawLine_19 : decode cX5_lawLine 19 = .ok (.iconst 2, 1) := by decide +kernel
theorem dX5_lawLine_20 : decode cX5_lawLine 20 = .ok (.aload_n 0, 1) := by decide +kernel
theorem dX5_lawLine_21 : decode cX5_lawLine 21 = .ok (.getfield 52, 3) := by decide +kernel
theorem dX5_lawLine_24 : decode cX5_lawLine 24 = .ok (.invokevirtual 107, 3) := by decide +kernel
theorem dX5_lawLine_27 : decode cX5_lawLine 27 = .ok (.aload_n 0, 1) := by decide +kernel
theorem dX5_lawLine_28 : decode cX5_lawLine 28 = .ok (.getfield 28, 3) := by decide +kernel
theorem dX5_lawLine_31 : decode cX5_lawLine 31 = .ok (.sipush 313, 3) := by decide +kernel
theorem dX5_lawLine_34 : decode cX5_lawLine 34 = .ok (.if_icmp .ne 17, 3) := by decide +kernel
theorem dX5_lawLine_37 : decode cX5_lawLine 37 = .ok (.aload_n 0, 1) := by decide +kernel
theorem dX5_lawLine_38 : decode cX5_lawLine 38 = .ok (.invokevirtual 55, 3) := by decide +kernel
theorem dX5_lawLine_41 : decode cX5_lawLine 41 = .ok (.aload_n 0, 1) := by decide +kernel
theorem dX5_lawLine_42 : decode cX5_lawLine 42 = .ok (.iconst 0, 1) := by decide +kernel
theorem dX5_lawLine_43 : decode cX5_lawLine 43 = .ok (.invokevirtual 124, 3) := by decide +kernel
theorem dX5_lawLine_46 : decode cX5_lawLine 46 = .ok (.ifCond .ne 5, 3) := by decide +kernel
theorem dX5_lawLine_49 : decode cX5_lawLine 49 = .ok (.iconst 0, 1) := by decide +kernel
theorem dX5_lawLine_50 : decode cX5_lawLine 50 = .ok (.ireturn, 1) := by decide +kernel
theorem dX5_lawLine_51 : decode cX5_lawLine 51 = .ok (.aload_n 0, 1) := by decide +kernel
theorem dX5_lawLine_52 : decode cX5_lawLine 52 = .ok (.iconst 3, 1) := by decide +kernel
theorem dX5_lawLine_53 : decode cX5_lawLine 53 = .ok (.aload_n 0, 1) := by decide +kernel
theorem dX5_lawLine_54 : decode cX5_lawLine 54 = .ok (.getfield 52, 3) := by decide +kernel
theorem dX5_lawLine_57 : decode cX5_lawLine 57 = .ok (.invokevirtual 107, 3) := by decide +kernel
theorem dX5_lawLine_60 : decode cX5_lawLine 60 = .ok (.iconst 1, 1) := by decide +kernel
theorem dX5_lawLine_61 : decode cX5_lawLine 61 = .ok (.ireturn, 1) := by decide +kernel
theorem dX5_emit_0 : decode cX5_emit 0 = .ok (.aload_n 0, 1) := by decide +kernel
theorem dX5_emit_1 : decode cX5_emit 1 = .ok (.getfield 52, 3) := by decide +kernel
theorem dX5_emit_4 : decode cX5_emit 4 = .ok (.sipush 400, 3) := by decide +kernel
theorem dX5_emit_7 : decode cX5_emit 7 = .ok (.if_icmp .ge 27, 3) := by decide +kernel
theorem dX5_emit_10 : decode cX5_emit 10 = .ok (.aload_n 0, 1) := by decide +kernel
theorem dX5_emit_11 : decode cX5_emit 11 = .ok (.getfield 49, 3) := by decide +kernel
theorem dX5_emit_14 : decode cX5_emit 14 = .ok (.aload_n 0, 1) := by decide +kernel
theorem dX5_emit_15 : decode cX5_emit 15 = .ok (.getfield 52, 3) := by decide +kernel
theorem dX5_emit_18 : decode cX5_emit 18 = .ok (.iload_n 2, 1) := by decide +kernel
theorem dX5_emit_19 : decode cX5_emit 19 = .ok (.iconst 4, 1) := by decide +kernel
theorem dX5_emit_20 : decode cX5_emit 20 = .ok (.ishl, 1) := by decide +kernel
theorem dX5_emit_21 : decode cX5_emit 21 = .ok (.iload_n 1, 1) := by decide +kernel
theorem dX5_emit_22 : decode cX5_emit 22 = .ok (.ior, 1) := by decide +kernel
theorem dX5_emit_23 : decode cX5_emit 23 = .ok (.iastore, 1) := by decide +kernel
theorem dX5_emit_24 : decode cX5_emit 24 = .ok (.aload_n 0, 1) := by decide +kernel
theorem dX5_emit_25 : decode cX5_emit 25 = .ok (.dup, 1) := by decide +kernel
theorem dX5_emit_26 : decode cX5_emit 26 = .ok (.getfield 52, 3) := by decide +kernel
theorem dX5_emit_29 : decode cX5_emit 29 = .ok (.iconst 1, 1) := by decide +kernel
theorem dX5_emit_30 : decode cX5_emit 30 = .ok (.iadd, 1) := by decide +kernel
theorem dX5_emit_31 : decode cX5_emit 31 = .ok (.putfield 52, 3) := by decide +kernel
theorem dX5_emit_34 : decode cX5_emit 34 = .ok (.return_, 1) := by decide +kernel
theorem dX5_readChoice_0 : decode cX5_readChoice 0 = .ok (.iconst 0, 1) := by decide +kernel
theorem dX5_readChoice_1 : decode cX5_readChoice 1 = .ok (.istore_n 2, 1) := by decide +kernel
theorem dX5_readChoice_2 : decode cX5_readChoice 2 = .ok (.iconst 0, 1) := by decide +kernel
theorem dX5_readChoice_3 : decode cX5_readChoice 3 = .ok (.istore_n 3, 1) := by decide +kernel
theorem dX5_readChoice_4 : decode cX5_readChoice 4 = .ok (.iconst 0, 1) := by decide +kernel
theorem dX5_readChoice_5 : decode cX5_readChoice 5 = .ok (.istore 4, 2) := by decide +kernel
theorem dX5_readChoice_7 : decode cX5_readChoice 7 = .ok (.iload 4, 2) := by decide +kernel
theorem dX5_readChoice_9 : decode cX5_readChoice 9 = .ok (.sipush 400, 3) := by decide +kernel
theorem dX5_readChoice_12 : decode cX5_readChoice 12 = .ok (.if_icmp .ge 87, 3) := by decide +kernel
theorem dX5_readChoice_15 : decode cX5_readChoice 15 = .ok (.aload_n 0, 1) := by decide +kernel
theorem dX5_readChoice_16 : decode cX5_readChoice 16 = .ok (.iload_n 1, 1) := by decide +kernel
theorem dX5_readChoice_17 : decode cX5_readChoice 17 = .ok (.invokevirtual 127, 3) := by decide +kernel
theorem dX5_readChoice_20 : decode cX5_readChoice 20 = .ok (.ifCond .ne 5, 3) := by decide +kernel
theorem dX5_readChoice_23 : decode cX5_readChoice 23 = .ok (.iconst 0, 1) := by decide +kernel
theorem dX5_readChoice_24 : decode cX5_readChoice 24 = .ok (.ireturn, 1) := by decide +kernel
theorem dX5_readChoice_25 : decode cX5_readChoice 25 = .ok (.iload_n 3, 1) := by decide +kernel
theorem dX5_readChoice_26 : decode cX5_readChoice 26 = .ok (.ifCond .eq 10, 3) := by decide +kernel
theorem dX5_readChoice_29 : decode cX5_readChoice 29 = .ok (.aload_n 0, 1) := by decide +kernel
theorem dX5_readChoice_30 : decode cX5_readChoice 30 = .ok (.bipush 10, 2) := by decide +kernel
theorem dX5_readChoice_32 : decode cX5_readChoice 32 = .ok (.iconst 0, 1) := by decide +kernel
theorem dX5_readChoice_33 : decode cX5_readChoice 33 = .ok (.invokevirtual 130, 3) := by decide +kernel
theorem dX5_readChoice_36 : decode cX5_readChoice 36 = .ok (.aload_n 0, 1) := by decide +kernel
theorem dX5_readChoice_37 : decode cX5_readChoice 37 = .ok (.getfield 28, 3) := by decide +kernel
theorem dX5_readChoice_40 : decode cX5_readChoice 40 = .ok (.sipush 315, 3) := by decide +kernel
theorem dX5_readChoice_43 : decode cX5_readChoice 43 = .ok (.if_icmp .ne 7, 3) := by decide +kernel
theorem dX5_readChoice_46 : decode cX5_readChoice 46 = .ok (.iconst 1, 1) := by decide +kernel
theorem dX5_readChoice_47 : decode cX5_readChoice 47 = .ok (.goto 4, 3) := by decide +kernel
theorem dX5_readChoice_50 : decode cX5_readChoice 50 = .ok (.iconst 0, 1) := by decide +kernel
theorem dX5_readChoice_51 : decode cX5_readChoice 51 = .ok (.istore_n 3, 1) := by decide +kernel
theorem dX5_readChoice_52 : decode cX5_readChoice 52 = .ok (.iload_n 3, 1) := by decide +kernel
theorem dX5_readChoice_53 : decode cX5_readChoice 53 = .ok (.ifCond .ne 36, 3) := by decide +kernel
theorem dX5_readChoice_56 : decode cX5_readChoice 56 = .ok (.iload_n 2, 1) := by decide +kernel
theorem dX5_readChoice_57 : decode cX5_readChoice 57 = .ok (.ifCond .eq 10, 3) := by decide +kernel
theorem dX5_readChoice_60 : decode cX5_readChoice 60 = .ok (.aload_n 0, 1) := by decide +kernel
theorem dX5_readChoice_61 : decode cX5_readChoice 61 = .ok (.bipush 11, 2) := by decide +kernel
theorem dX5_readChoice_63 : decode cX5_readChoice 63 = .ok (.iconst 0, 1) := by decide +kernel
theorem dX5_readChoice_64 : decode cX5_readChoice 64 = .ok (.invokevirtual 130, 3) := by decide +kernel
theorem dX5_readChoice_67 : decode cX5_readChoice 67 = .ok (.aload_n 0, 1) := by decide +kernel
theorem dX5_readChoice_68 : decode cX5_readChoice 68 = .ok (.getfield 28, 3) := by decide +kernel
theorem dX5_readChoice_71 : decode cX5_readChoice 71 = .ok (.sipush 314, 3) := by decide +kernel
theorem dX5_readChoice_74 : decode cX5_readChoice 74 = .ok (.if_icmp .ne 7, 3) := by decide +kernel
theorem dX5_readChoice_77 : decode cX5_readChoice 77 = .ok (.iconst 1, 1) := by decide +kernel
theorem dX5_readChoice_78 : decode cX5_readChoice 78 = .ok (.goto 4, 3) := by decide +kernel
theorem dX5_readChoice_81 : decode cX5_readChoice 81 = .ok (.iconst 0, 1) := by decide +kernel
theorem dX5_readChoice_82 : decode cX5_readChoice 82 = .ok (.istore_n 2, 1) := by decide +kernel
theorem dX5_readChoice_83 : decode cX5_readChoice 83 = .ok (.iload_n 2, 1) := by decide +kernel
theorem dX5_readChoice_84 : decode cX5_readChoice 84 = .ok (.ifCond .ne 5, 3) := by decide +kernel
theorem dX5_readChoice_87 : decode cX5_readChoice 87 = .ok (.iconst 1, 1) := by decide +kernel
theorem dX5_readChoice_88 : decode cX5_readChoice 88 = .ok (.ireturn, 1) := by decide +kernel
theorem dX5_readChoice_89 : decode cX5_readChoice 89 = .ok (.aload_n 0, 1) := by decide +kernel
theorem dX5_readChoice_90 : decode cX5_readChoice 90 = .ok (.invokevirtual 55, 3) := by decide +kernel
theorem dX5_readChoice_93 : decode cX5_readChoice 93 = .ok (.iinc 4 1, 3) := by decide +kernel
theorem dX5_readChoice_96 : decode cX5_readChoice 96 = .ok (.goto (-89), 3) := by decide +kernel
theorem dX5_readChoice_99 : decode cX5_readChoice 99 = .ok (.aload_n 0, 1) := by decide +kernel
theorem dX5_readChoice_100 : decode cX5_readChoice 100 = .ok (.iconst 1, 1) := by decide +kernel
theorem dX5_readChoice_101 : decode cX5_readChoice 101 = .ok (.invokevirtual 104, 3) := by decide +kernel
theorem dX5_readChoice_104 : decode cX5_readChoice 104 = .ok (.ireturn, 1) := by decide +kernel
theorem dX5_readTest_0 : decode cX5_readTest 0 = .ok (.aload_n 0, 1) := by decide +kernel
theorem dX5_readTest_1 : decode cX5_readTest 1 = .ok (.getfield 28, 3) := by decide +kernel
theorem dX5_readTest_4 : decode cX5_readTest 4 = .ok (.sipush 316, 3) := by decide +kernel
theorem dX5_readTest_7 : decode cX5_readTest 7 = .ok (.if_icmp .ne 7, 3) := by decide +kernel
theorem dX5_readTest_10 : decode cX5_readTest 10 = .ok (.iconst 1, 1) := by decide +kernel
theorem dX5_readTest_11 : decode cX5_readTest 11 = .ok (.goto 4, 3) := by decide +kernel
theorem dX5_readTest_14 : decode cX5_readTest 14 = .ok (.iconst 0, 1) := by decide +kernel
theorem dX5_readTest_15 : decode cX5_readTest 15 = .ok (.istore_n 2, 1) := by decide +kernel
theorem dX5_readTest_16 : decode cX5_readTest 16 = .ok (.iload_n 2, 1) := by decide +kernel
theorem dX5_readTest_17 : decode cX5_readTest 17 = .ok (.ifCond .ne 12, 3) := by decide +kernel
theorem dX5_readTest_20 : decode cX5_readTest 20 = .ok (.aload_n 0, 1) := by decide +kernel
theorem dX5_readTest_21 : decode cX5_readTest 21 = .ok (.getfield 28, 3) := by decide +kernel
theorem dX5_readTest_24 : decode cX5_readTest 24 = .ok (.bipush 40, 2) := by decide +kernel
theorem dX5_readTest_26 : decode cX5_readTest 26 = .ok (.if_icmp .ne 68, 3) := by decide +kernel
theorem dX5_readTest_29 : decode cX5_readTest 29 = .ok (.iload_n 1, 1) := by decide +kernel
theorem dX5_readTest_30 : decode cX5_readTest 30 = .ok (.bipush 8, 2) := by decide +kernel
theorem dX5_readTest_32 : decode cX5_readTest 32 = .ok (.if_icmp .lt 9, 3) := by decide +kernel
theorem dX5_readTest_35 : decode cX5_readTest 35 = .ok (.aload_n 0, 1) := by decide +kernel
theorem dX5_readTest_36 : decode cX5_readTest 36 = .ok (.iconst 3, 1) := by decide +kernel
theorem dX5_readTest_37 : decode cX5_readTest 37 = .ok (.invokevirtual 104, 3) := by decide +kernel
theorem dX5_readTest_40 : decode cX5_readTest 40 = .ok (.ireturn, 1) := by decide +kernel
theorem dX5_readTest_41 : decode cX5_readTest 41 = .ok (.aload_n 0, 1) := by decide +kernel
theorem dX5_readTest_42 : decode cX5_readTest 42 = .ok (.invokevirtual 55, 3) := by decide +kernel
theorem dX5_readTest_45 : decode cX5_readTest 45 = .ok (.iload_n 2, 1) := by decide +kernel
theorem dX5_readTest_46 : decode cX5_readTest 46 = .ok (.ifCond .ne 28, 3) := by decide +kernel
theorem dX5_readTest_49 : decode cX5_readTest 49 = .ok (.aload_n 0, 1) := by decide +kernel
theorem dX5_readTest_50 : decode cX5_readTest 50 = .ok (.iload_n 1, 1) := by decide +kernel
theorem dX5_readTest_51 : decode cX5_readTest 51 = .ok (.iconst 1, 1) := by decide +kernel
theorem dX5_readTest_52 : decode cX5_readTest 52 = .ok (.iadd, 1) := by decide +kernel
theorem dX5_readTest_53 : decode cX5_readTest 53 = .ok (.invokevirtual 124, 3) := by decide +kernel
theorem dX5_readTest_56 : decode cX5_readTest 56 = .ok (.ifCond .eq 16, 3) := by decide +kernel
theorem dX5_readTest_59 : decode cX5_readTest 59 = .ok (.aload_n 0, 1) := by decide +kernel
theorem dX5_readTest_60 : decode cX5_readTest 60 = .ok (.bipush 41, 2) := by decide +kernel
theorem dX5_readTest_62 : decode cX5_readTest 62 = .ok (.invokevirtual 69, 3) := by decide +kernel
theorem dX5_readTest_65 : decode cX5_readTest 65 = .ok (.ifCond .eq 7, 3) := by decide +kernel
theorem dX5_readTest_68 : decode cX5_readTest 68 = .ok (.iconst 1, 1) := by decide +kernel
theorem dX5_readTest_69 : decode cX5_readTest 69 = .ok (.goto 4, 3) := by decide +kernel
theorem dX5_readTest_72 : decode cX5_readTest 72 = .ok (.iconst 0, 1) := by decide +kernel
theorem dX5_readTest_73 : decode cX5_readTest 73 = .ok (.ireturn, 1) := by decide +kernel
theorem dX5_readTest_74 : decode cX5_readTest 74 = .ok (.aload_n 0, 1) := by decide +kernel
theorem dX5_readTest_75 : decode cX5_readTest 75 = .ok (.iload_n 1, 1) := by decide +kernel
theorem dX5_readTest_76 : decode cX5_readTest 76 = .ok (.iconst 1, 1) := by decide +kernel
theorem dX5_readTest_77 : decode cX5_readTest 77 = .ok (.iadd, 1) := by decide +kernel
theorem dX5_readTest_78 : decode cX5_readTest 78 = .ok (.invokevirtual 127, 3) := by decide +kernel
theorem dX5_readTest_81 : decode cX5_readTest 81 = .ok (.ifCond .ne 5, 3) := by decide +kernel
theorem dX5_readTest_84 : decode cX5_readTest 84 = .ok (.iconst 0, 1) := by decide +kernel
theorem dX5_readTest_85 : decode cX5_readTest 85 = .ok (.ireturn, 1) := by decide +kernel
theorem dX5_readTest_86 : decode cX5_readTest 86 = .ok (.aload_n 0, 1) := by decide +kernel
theorem dX5_readTest_87 : decode cX5_readTest 87 = .ok (.iconst 3, 1) := by decide +kernel
theorem dX5_readTest_88 : decode cX5_readTest 88 = .ok (.iconst 0, 1) := by decide +kernel
theorem dX5_readTest_89 : decode cX5_readTest 89 = .ok (.invokevirtual 130, 3) := by decide +kernel
theorem dX5_readTest_92 : decode cX5_readTest 92 = .ok (.iconst 1, 1) := by decide +kernel
theorem dX5_readTest_93 : decode cX5_readTest 93 = .ok (.ireturn, 1) := by decide +kernel
theorem dX5_readTest_94 : decode cX5_readTest 94 = .ok (.aload_n 0, 1) := by decide +kernel
theorem dX5_readTest_95 : decode cX5_readTest 95 = .ok (.invokevirtual 121, 3) := by decide +kernel
theorem dX5_readTest_98 : decode cX5_readTest 98 = .ok (.ifCond .ne 5, 3) := by decide +kernel
theorem dX5_readTest_101 : decode cX5_readTest 101 = .ok (.iconst 0, 1) := by decide +kernel
theorem dX5_readTest_102 : decode cX5_readTest 102 = .ok (.ireturn, 1) := by decide +kernel
theorem dX5_readTest_103 : decode cX5_readTest 103 = .ok (.aload_n 0, 1) := by decide +kernel
theorem dX5_readTest_104 : decode cX5_readTest 104 = .ok (.getfield 28, 3) := by decide +kernel
theorem dX5_readTest_107 : decode cX5_readTest 107 = .ok (.bipush 60, 2) := by decide +kernel
theorem dX5_readTest_109 : decode cX5_readTest 109 = .ok (.if_icmp .eq 27, 3) := by decide +kernel
theorem dX5_readTest_112 : decode cX5_readTest 112 = .ok (.aload_n 0, 1) := by decide +kernel
theorem dX5_readTest_113 : decode cX5_readTest 113 = .ok (.getfield 28, 3) := by decide +kernel
theorem dX5_readTest_116 : decode cX5_readTest 116 = .ok (.bipush 61, 2) := by decide +kernel
theorem dX5_readTest_118 : decode cX5_readTest 118 = .ok (.if_icmp .eq 18, 3) := by decide +kernel
theorem dX5_readTest_121 : decode cX5_readTest 121 = .ok (.aload_n 0, 1) := by decide +kernel
theorem dX5_readTest_122 : decode cX5_readTest 122 = .ok (.getfield 28, 3) := by decide +kernel
theorem dX5_readTest_125 : decode cX5_readTest 125 = .ok (.bipush 62, 2) := by decide +kernel
theorem dX5_readTest_127 : decode cX5_readTest 127 = .ok (.if_icmp .eq 9, 3) := by decide +kernel
theorem dX5_readTest_130 : decode cX5_readTest 130 = .ok (.aload_n 0, 1) := by decide +kernel
theorem dX5_readTest_131 : decode cX5_readTest 131 = .ok (.iconst 1, 1) := by decide +kernel
theorem dX5_readTest_132 : decode cX5_readTest 132 = .ok (.invokevirtual 104, 3) := by decide +kernel
theorem dX5_readTest_135 : decode cX5_readTest 135 = .ok (.ireturn, 1) := by decide +kernel
theorem dX5_readTest_136 : decode cX5_readTest 136 = .ok (.bipush 8, 2) := by decide +kernel
theorem dX5_readTest_138 : decode cX5_readTest 138 = .ok (.aload_n 0, 1) := by decide +kernel
theorem dX5_readTest_139 : decode cX5_readTest 139 = .ok (.getfield 28, 3) := by decide +kernel
theorem dX5_readTest_142 : decode cX5_readTest 142 = .ok (.iadd, 1) := by decide +kernel
theorem dX5_readTest_143 : decode cX5_readTest 143 = .ok (.bipush 61, 2) := by decide +kernel
theorem dX5_readTest_145 : decode cX5_readTest 145 = .ok (.isub, 1) := by decide +kernel
theorem dX5_readTest_146 : decode cX5_readTest 146 = .ok (.istore_n 3, 1) := by decide +kernel
theorem dX5_readTest_147 : decode cX5_readTest 147 = .ok (.aload_n 0, 1) := by decide +kernel
theorem dX5_readTest_148 : decode cX5_readTest 148 = .ok (.invokevirtual 55, 3) := by decide +kernel
theorem dX5_readTest_151 : decode cX5_readTest 151 = .ok (.aload_n 0, 1) := by decide +kernel
theorem dX5_readTest_152 : decode cX5_readTest 152 = .ok (.invokevirtual 121, 3) := by decide +kernel
theorem dX5_readTest_155 : decode cX5_readTest 155 = .ok (.ifCond .ne 5, 3) := by decide +kernel
theorem dX5_readTest_158 : decode cX5_readTest 158 = .ok (.iconst 0, 1) := by decide +kernel
theorem dX5_readTest_159 : decode cX5_readTest 159 = .ok (.ireturn, 1) := by decide +kernel
theorem dX5_readTest_160 : decode cX5_readTest 160 = .ok (.aload_n 0, 1) := by decide +kernel
theorem dX5_readTest_161 : decode cX5_readTest 161 = .ok (.iload_n 3, 1) := by decide +kernel
theorem dX5_readTest_162 : decode cX5_readTest 162 = .ok (.iconst 0, 1) := by decide +kernel
theorem dX5_readTest_163 : decode cX5_readTest 163 = .ok (.invokevirtual 130, 3) := by decide +kernel
theorem dX5_readTest_166 : decode cX5_readTest 166 = .ok (.iconst 1, 1) := by decide +kernel
theorem dX5_readTest_167 : decode cX5_readTest 167 = .ok (.ireturn, 1) := by decide +kernel
theorem dX5_readSum_0 : decode cX5_readSum 0 = .ok (.iconst 0, 1) := by decide +kernel
theorem dX5_readSum_1 : decode cX5_readSum 1 = .ok (.istore_n 1, 1) := by decide +kernel
theorem dX5_readSum_2 : decode cX5_readSum 2 = .ok (.iconst 0, 1) := by decide +kernel
theorem dX5_readSum_3 : decode cX5_readSum 3 = .ok (.istore_n 2, 1) := by decide +kernel
theorem dX5_readSum_4 : decode cX5_readSum 4 = .ok (.iconst 0, 1) := by decide +kernel
theorem dX5_readSum_5 : decode cX5_readSum 5 = .ok (.istore_n 3, 1) := by decide +kernel
theorem dX5_readSum_6 : decode cX5_readSum 6 = .ok (.iload_n 3, 1) := by decide +kernel
theorem dX5_readSum_7 : decode cX5_readSum 7 = .ok (.sipush 400, 3) := by decide +kernel
theorem dX5_readSum_10 : decode cX5_readSum 10 = .ok (.if_icmp .ge 89, 3) := by decide +kernel
theorem dX5_readSum_13 : decode cX5_readSum 13 = .ok (.aload_n 0, 1) := by decide +kernel
theorem dX5_readSum_14 : decode cX5_readSum 14 = .ok (.iload_n 2, 1) := by decide +kernel
theorem dX5_readSum_15 : decode cX5_readSum 15 = .ok (.invokevirtual 133, 3) := by decide +kernel
theorem dX5_readSum_18 : decode cX5_readSum 18 = .ok (.ifCond .ne 5, 3) := by decide +kernel
theorem dX5_readSum_21 : decode cX5_readSum 21 = .ok (.iconst 0, 1) := by decide +kernel
theorem dX5_readSum_22 : decode cX5_readSum 22 = .ok (.ireturn, 1) := by decide +kernel
theorem dX5_readSum_23 : decode cX5_readSum 23 = .ok (.aload_n 0, 1) := by decide +kernel
theorem dX5_readSum_24 : decode cX5_readSum 24 = .ok (.invokevirtual 55, 3) := by decide +kernel
theorem dX5_readSum_27 : decode cX5_readSum 27 = .ok (.aload_n 0, 1) := by decide +kernel
theorem dX5_readSum_28 : decode cX5_readSum 28 = .ok (.getfield 28, 3) := by decide +kernel
theorem dX5_readSum_31 : decode cX5_readSum 31 = .ok (.istore_n 2, 1) := by decide +kernel
theorem dX5_readSum_32 : decode cX5_readSum 32 = .ok (.iload_n 2, 1) := by decide +kernel
theorem dX5_readSum_33 : decode cX5_readSum 33 = .ok (.bipush 42, 2) := by decide +kernel
theorem dX5_readSum_35 : decode cX5_readSum 35 = .ok (.if_icmp .eq 54, 3) := by decide +kernel
theorem dX5_readSum_38 : decode cX5_readSum 38 = .ok (.iload_n 2, 1) := by decide +kernel
theorem dX5_readSum_39 : decode cX5_readSum 39 = .ok (.bipush 47, 2) := by decide +kernel
theorem dX5_readSum_41 : decode cX5_readSum 41 = .ok (.if_icmp .eq 48, 3) := by decide +kernel
theorem dX5_readSum_44 : decode cX5_readSum 44 = .ok (.iload_n 1, 1) := by decide +kernel
theorem dX5_readSum_45 : decode cX5_readSum 45 = .ok (.ifCond .eq 9, 3) := by decide +kernel
theorem dX5_readSum_48 : decode cX5_readSum 48 = .ok (.aload_n 0, 1) := by decide +kernel
theorem dX5_readSum_49 : decode cX5_readSum 49 = .ok (.iload_n 1, 1) := by decide +kernel
theorem dX5_readSum_50 : decode cX5_readSum 50 = .ok (.iconst 0, 1) := by decide +kernel
theorem dX5_readSum_51 : decode cX5_readSum 51 = .ok (.invokevirtual 130, 3) := by decide +kernel
theorem dX5_readSum_54 : decode cX5_readSum 54 = .ok (.aload_n 0, 1) := by decide +kernel
theorem dX5_readSum_55 : decode cX5_readSum 55 = .ok (.getfield 28, 3) := by decide +kernel
theorem dX5_readSum_58 : decode cX5_readSum 58 = .ok (.bipush 43, 2) := by decide +kernel
theorem dX5_readSum_60 : decode cX5_readSum 60 = .ok (.if_icmp .eq 14, 3) := by decide +kernel
theorem dX5_readSum_63 : decode cX5_readSum 63 = .ok (.aload_n 0, 1) := by decide +kernel
theorem dX5_readSum_64 : decode cX5_readSum 64 = .ok (.getfield 28, 3) := by decide +kernel
theorem dX5_readSum_67 : decode cX5_readSum 67 = .ok (.bipush 45, 2) := by decide +kernel
theorem dX5_readSum_69 : decode cX5_readSum 69 = .ok (.if_icmp .eq 5, 3) := by decide +kernel
theorem dX5_readSum_72 : decode cX5_readSum 72 = .ok (.iconst 1, 1) := by decide +kernel
theorem dX5_readSum_73 : decode cX5_readSum 73 = .ok (.ireturn, 1) := by decide +kernel
theorem dX5_readSum_74 : decode cX5_readSum 74 = .ok (.aload_n 0, 1) := by decide +kernel
theorem dX5_readSum_75 : decode cX5_readSum 75 = .ok (.getfield 28, 3) := by decide +kernel
theorem dX5_readSum_78 : decode cX5_readSum 78 = .ok (.bipush 43, 2) := by decide +kernel
theorem dX5_readSum_80 : decode cX5_readSum 80 = .ok (.if_icmp .ne 7, 3) := by decide +kernel
theorem dX5_readSum_83 : decode cX5_readSum 83 = .ok (.iconst 4, 1) := by decide +kernel
theorem dX5_readSum_84 : decode cX5_readSum 84 = .ok (.goto 4, 3) := by decide +kernel
theorem dX5_readSum_87 : decode cX5_readSum 87 = .ok (.iconst 5, 1) := by decide +kernel
theorem dX5_readSum_88 : decode cX5_readSum 88 = .ok (.istore_n 1, 1) := by decide +kernel
theorem dX5_readSum_89 : decode cX5_readSum 89 = .ok (.aload_n 0, 1) := by decide +kernel
theorem dX5_readSum_90 : decode cX5_readSum 90 = .ok (.invokevirtual 55, 3) := by decide +kernel
theorem dX5_readSum_93 : decode cX5_readSum 93 = .ok (.iinc 3 1, 3) := by decide +kernel
theorem dX5_readSum_96 : decode cX5_readSum 96 = .ok (.goto (-90), 3) := by decide +kernel
theorem dX5_readSum_99 : decode cX5_readSum 99 = .ok (.aload_n 0, 1) := by decide +kernel
theorem dX5_readSum_100 : decode cX5_readSum 100 = .ok (.iconst 1, 1) := by decide +kernel
theorem dX5_readSum_101 : decode cX5_readSum 101 = .ok (.invokevirtual 104, 3) := by decide +kernel
theorem dX5_readSum_104 : decode cX5_readSum 104 = .ok (.ireturn, 1) := by decide +kernel
theorem dX5_emitUnit_0 : decode cX5_emitUnit 0 = .ok (.iload_n 1, 1) := by decide +kernel
theorem dX5_emitUnit_1 : decode cX5_emitUnit 1 = .ok (.bipush 47, 2) := by decide +kernel
theorem dX5_emitUnit_3 : decode cX5_emitUnit 3 = .ok (.if_icmp .ne 7, 3) := by decide +kernel
theorem dX5_emitUnit_6 : decode cX5_emitUnit 6 = .ok (.iconst 1, 1) := by decide +kernel
theorem dX5_emitUnit_7 : decode cX5_emitUnit 7 = .ok (.goto 4, 3) := by decide +kernel
theorem dX5_emitUnit_10 : decode cX5_emitUnit 10 = .ok (.iconst 0, 1) := by decide +kernel
theorem dX5_emitUnit_11 : decode cX5_emitUnit 11 = .ok (.istore_n 2, 1) := by decide +kernel
theorem dX5_emitUnit_12 : decode cX5_emitUnit 12 = .ok (.aload_n 0, 1) := by decide +kernel
theorem dX5_emitUnit_13 : decode cX5_emitUnit 13 = .ok (.getfield 28, 3) := by decide +kernel
theorem dX5_emitUnit_16 : decode cX5_emitUnit 16 = .ok (.iconst 1, 1) := by decide +kernel
theorem dX5_emitUnit_17 : decode cX5_emitUnit 17 = .ok (.if_icmp .ne 40, 3) := by decide +kernel
theorem dX5_emitUnit_20 : decode cX5_emitUnit 20 = .ok (.iload_n 2, 1) := by decide +kernel
theorem dX5_emitUnit_21 : decode cX5_emitUnit 21 = .ok (.ifCond .eq 16, 3) := by decide +kernel
theorem dX5_emitUnit_24 : decode cX5_emitUnit 24 = .ok (.aload_n 0, 1) := by decide +kernel
theorem dX5_emitUnit_25 : decode cX5_emitUnit 25 = .ok (.getfield 31, 3) := by decide +kernel
theorem dX5_emitUnit_28 : decode cX5_emitUnit 28 = .ok (.ifCond .ne 9, 3) := by decide +kernel
theorem dX5_emitUnit_31 : decode cX5_emitUnit 31 = .ok (.aload_n 0, 1) := by decide +kernel
theorem dX5_emitUnit_32 : decode cX5_emitUnit 32 = .ok (.iconst 2, 1) := by decide +kernel
theorem dX5_emitUnit_33 : decode cX5_emitUnit 33 = .ok (.invokevirtual 104, 3) := by decide +kernel
theorem dX5_emitUnit_36 : decode cX5_emitUnit 36 = .ok (.ireturn, 1) := by decide +kernel
theorem dX5_emitUnit_37 : decode cX5_emitUnit 37 = .ok (.aload_n 0, 1) := by decide +kernel
theorem dX5_emitUnit_38 : decode cX5_emitUnit 38 = .ok (.iload_n 2, 1) := by decide +kernel
theorem dX5_emitUnit_39 : decode cX5_emitUnit 39 = .ok (.ifCond .eq 7, 3) := by decide +kernel
theorem dX5_emitUnit_42 : decode cX5_emitUnit 42 = .ok (.iconst 2, 1) := by decide +kernel
theorem dX5_emitUnit_43 : decode cX5_emitUnit 43 = .ok (.goto 4, 3) := by decide +kernel
theorem dX5_emitUnit_46 : decode cX5_emitUnit 46 = .ok (.iconst 0, 1) := by decide +kernel
theorem dX5_emitUnit_47 : decode cX5_emitUnit 47 = .ok (.aload_n 0, 1) := by decide +kernel
theorem dX5_emitUnit_48 : decode cX5_emitUnit 48 = .ok (.getfield 31, 3) := by decide +kernel
theorem dX5_emitUnit_51 : decode cX5_emitUnit 51 = .ok (.invokevirtual 130, 3) := by decide +kernel
theorem dX5_emitUnit_54 : decode cX5_emitUnit 54 = .ok (.goto 49, 3) := by decide +kernel
theorem dX5_emitUnit_57 : decode cX5_emitUnit 57 = .ok (.iload_n 2, 1) := by decide +kernel
theorem dX5_emitUnit_58 : decode cX5_emitUnit 58 = .ok (.ifCond .ne 39, 3) := by decide +kernel
theorem dX5_emitUnit_61 : decode cX5_emitUnit 61 = .ok (.aload_n 0, 1) := by decide +kernel
theorem dX5_emitUnit_62 : decode cX5_emitUnit 62 = .ok (.getfield 28, 3) := by decide +kernel
theorem dX5_emitUnit_65 : decode cX5_emitUnit 65 = .ok (.sipush 303, 3) := by decide +kernel
theorem dX5_emitUnit_68 : decode cX5_emitUnit 68 = .ok (.if_icmp .lt 29, 3) := by decide +kernel
theorem dX5_emitUnit_71 : decode cX5_emitUnit 71 = .ok (.aload_n 0, 1) := by decide +kernel
theorem dX5_emitUnit_72 : decode cX5_emitUnit 72 = .ok (.getfield 28, 3) := by decide +kernel
theorem dX5_emitUnit_75 : decode cX5_emitUnit 75 = .ok (.sipush 312, 3) := by decide +kernel
theorem dX5_emitUnit_78 : decode cX5_emitUnit 78 = .ok (.if_icmp .gt 19, 3) := by decide +kernel
theorem dX5_emitUnit_81 : decode cX5_emitUnit 81 = .ok (.aload_n 0, 1) := by decide +kernel
theorem dX5_emitUnit_82 : decode cX5_emitUnit 82 = .ok (.iconst 1, 1) := by decide +kernel
theorem dX5_emitUnit_83 : decode cX5_emitUnit 83 = .ok (.aload_n 0, 1) := by decide +kernel
theorem dX5_emitUnit_84 : decode cX5_emitUnit 84 = .ok (.getfield 28, 3) := by decide +kernel
theorem dX5_emitUnit_87 : decode cX5_emitUnit 87 = .ok (.sipush 303, 3) := by decide +kernel
theorem dX5_emitUnit_90 : decode cX5_emitUnit 90 = .ok (.isub, 1) := by decide +kernel
theorem dX5_emitUnit_91 : decode cX5_emitUnit 91 = .ok (.invokevirtual 130, 3) := by decide +kernel
theorem dX5_emitUnit_94 : decode cX5_emitUnit 94 = .ok (.goto 9, 3) := by decide +kernel
theorem dX5_emitUnit_97 : decode cX5_emitUnit 97 = .ok (.aload_n 0, 1) := by decide +kernel
theorem dX5_emitUnit_98 : decode cX5_emitUnit 98 = .ok (.iconst 1, 1) := by decide +kernel
theorem dX5_emitUnit_99 : decode cX5_emitUnit 99 = .ok (.invokevirtual 104, 3) := by decide +kernel
theorem dX5_emitUnit_102 : decode cX5_emitUnit 102 = .ok (.ireturn, 1) := by decide +kernel
theorem dX5_emitUnit_103 : decode cX5_emitUnit 103 = .ok (.iload_n 1, 1) := by decide +kernel
theorem dX5_emitUnit_104 : decode cX5_emitUnit 104 = .ok (.bipush 42, 2) := by decide +kernel
theorem dX5_emitUnit_106 : decode cX5_emitUnit 106 = .ok (.if_icmp .ne 10, 3) := by decide +kernel
theorem dX5_emitUnit_109 : decode cX5_emitUnit 109 = .ok (.aload_n 0, 1) := by decide +kernel
theorem dX5_emitUnit_110 : decode cX5_emitUnit 110 = .ok (.bipush 6, 2) := by decide +kernel
theorem dX5_emitUnit_112 : decode cX5_emitUnit 112 = .ok (.iconst 0, 1) := by decide +kernel
theorem dX5_emitUnit_113 : decode cX5_emitUnit 113 = .ok (.invokevirtual 130, 3) := by decide +kernel
theorem dX5_emitUnit_116 : decode cX5_emitUnit 116 = .ok (.iconst 1, 1) := by decide +kernel
theorem dX5_emitUnit_117 : decode cX5_emitUnit 117 = .ok (.ireturn, 1) := by decide +kernel
theorem dX6_init_0 : decode cX6_init 0 = .ok (.aload_n 0, 1) := by decide +kernel
theorem dX6_init_1 : decode cX6_init 1 = .ok (.invokespecial 3, 3) := by decide +kernel
theorem dX6_init_4 : decode cX6_init 4 = .ok (.aload_n 0, 1) := by decide +kernel
theorem dX6_init_5 : decode cX6_init 5 = .ok (.sipush 144, 3) := by decide +kernel
theorem dX6_init_8 : decode cX6_init 8 = .ok (.newarray .int, 2) := by decide +kernel
theorem dX6_init_10 : decode cX6_init 10 = .ok (.putfield 9, 3) := by decide +kernel
theorem dX6_init_13 : decode cX6_init 13 = .ok (.aload_n 0, 1) := by decide +kernel
theorem dX6_init_14 : decode cX6_init 14 = .ok (.sipush 144, 3) := by decide +kernel
theorem dX6_init_17 : decode cX6_init 17 = .ok (.newarray .int, 2) := by decide +kernel
theorem dX6_init_19 : decode cX6_init 19 = .ok (.putfield 15, 3) := by decide +kernel
theorem dX6_init_22 : decode cX6_init 22 = .ok (.aload_n 0, 1) := by decide +kernel
theorem dX6_init_23 : decode cX6_init 23 = .ok (.iconst 0, 1) := by decide +kernel
theorem dX6_init_24 : decode cX6_init 24 = .ok (.putfield 18, 3) := by decide +kernel
theorem dX6_init_27 : decode cX6_init 27 = .ok (.aload_n 0, 1) := by decide +kernel
theorem dX6_init_28 : decode cX6_init 28 = .ok (.iconst 0, 1) := by decide +kernel
theorem dX6_init_29 : decode cX6_init 29 = .ok (.putfield 22, 3) := by decide +kernel
theorem dX6_init_32 : decode cX6_init 32 = .ok (.return_, 1) := by decide +kernel
theorem dX6_blobs_0 : decode cX6_blobs 0 = .ok (.aload_n 0, 1) := by decide +kernel
theorem dX6_blobs_1 : decode cX6_blobs 1 = .ok (.aload_n 1, 1) := by decide +kernel
theorem dX6_blobs_2 : decode cX6_blobs 2 = .ok (.iconst 1, 1) := by decide +kernel
theorem dX6_blobs_3 : decode cX6_blobs 3 = .ok (.iconst 0, 1) := by decide +kernel
theorem dX6_blobs_4 : decode cX6_blobs 4 = .ok (.invokevirtual 26, 3) := by decide +kernel
theorem dX6_blobs_7 : decode cX6_blobs 7 = .ok (.ireturn, 1) := by decide +kernel
theorem dX6_greatestBlob_0 : decode cX6_greatestBlob 0 = .ok (.aload_n 0, 1) := by decide +kernel
theorem dX6_greatestBlob_1 : decode cX6_greatestBlob 1 = .ok (.aload_n 1, 1) := by decide +kernel
theorem dX6_greatestBlob_2 : decode cX6_greatestBlob 2 = .ok (.iconst 1, 1) := by decide +kernel
theorem dX6_greatestBlob_3 : decode cX6_greatestBlob 3 = .ok (.iconst 1, 1) := by decide +kernel
theorem dX6_greatestBlob_4 : decode cX6_greatestBlob 4 = .ok (.invokevirtual 26, 3) := by decide +kernel
theorem dX6_greatestBlob_7 : decode cX6_greatestBlob 7 = .ok (.ireturn, 1) := by decide +kernel
theorem dX6_holes_0 : decode cX6_holes 0 = .ok (.aload_n 0, 1) := by decide +kernel
theorem dX6_holes_1 : decode cX6_holes 1 = .ok (.aload_n 1, 1) := by decide +kernel
theorem dX6_holes_2 : decode cX6_holes 2 = .ok (.iconst 0, 1) := by decide +kernel
theorem dX6_holes_3 : decode cX6_holes 3 = .ok (.iconst 2, 1) := by decide +kernel
theorem dX6_holes_4 : decode cX6_holes 4 = .ok (.invokevirtual 26, 3) := by decide +kernel
theorem dX6_holes_7 : decode cX6_holes 7 = .ok (.ireturn, 1) := by decide +kernel
theorem dX6_pieces_0 : decode cX6_pieces 0 = .ok (.iconst 0, 1) := by decide +kernel
theorem dX6_pieces_1 : decode cX6_pieces 1 = .ok (.istore 4, 2) := by decide +kernel
theorem dX6_pieces_3 : decode cX6_pieces 3 = .ok (.iconst 0, 1) := by decide +kernel
theorem dX6_pieces_4 : decode cX6_pieces 4 = .ok (.istore 5, 2) := by decide +kernel
theorem dX6_pieces_6 : decode cX6_pieces 6 = .ok (.iconst 0, 1) := by decide +kernel
theorem dX6_pieces_7 : decode cX6_pieces 7 = .ok (.istore 6, 2) := by decide +kernel
theorem dX6_pieces_9 : decode cX6_pieces 9 = .ok (.iconst 0, 1) := by decide +kernel
theorem dX6_pieces_10 : decode cX6_pieces 10 = .ok (.istore 7, 2) := by decide +kernel
theorem dX6_pieces_12 : decode cX6_pieces 12 = .ok (.iload 7, 2) := by decide +kernel
theorem dX6_pieces_14 : decode cX6_pieces 14 = .ok (.sipush 144, 3) := by decide +kernel
theorem dX6_pieces_17 : decode cX6_pieces 17 = .ok (.if_icmp .ge 31, 3) := by decide +kernel
theorem dX6_pieces_20 : decode cX6_pieces 20 = .ok (.aload_n 0, 1) := by decide +kernel
theorem dX6_pieces_21 : decode cX6_pieces 21 = .ok (.getfield 9, 3) := by decide +kernel
theorem dX6_pieces_24 : decode cX6_pieces 24 = .ok (.iload 7, 2) := by decide +kernel
theorem dX6_pieces_26 : decode cX6_pieces 26 = .ok (.aload_n 1, 1) := by decide +kernel
theorem dX6_pieces_27 : decode cX6_pieces 27 = .ok (.iload 7, 2) := by decide +kernel
theorem dX6_pieces_29 : decode cX6_pieces 29 = .ok (.invokevirtual 30, 3) := by decide +kernel
theorem dX6_pieces_32 : decode cX6_pieces 32 = .ok (.iload_n 2, 1) := by decide +kernel
theorem dX6_pieces_33 : decode cX6_pieces 33 = .ok (.if_icmp .ne 7, 3) := by decide +kernel
theorem dX6_pieces_36 : decode cX6_pieces 36 = .ok (.iconst 0, 1) := by decide +kernel
theorem dX6_pieces_37 : decode cX6_pieces 37 = .ok (.goto 4, 3) := by decide +kernel
theorem dX6_pieces_40 : decode cX6_pieces 40 = .ok (.iconst 1, 1) := by decide +kernel
theorem dX6_pieces_41 : decode cX6_pieces 41 = .ok (.iastore, 1) := by decide +kernel
theorem dX6_pieces_42 : decode cX6_pieces 42 = .ok (.iinc 7 1, 3) := by decide +kernel
theorem dX6_pieces_45 : decode cX6_pieces 45 = .ok (.goto (-33), 3) := by decide +kernel
theorem dX6_pieces_48 : decode cX6_pieces 48 = .ok (.iconst 0, 1) := by decide +kernel
theorem dX6_pieces_49 : decode cX6_pieces 49 = .ok (.istore 7, 2) := by decide +kernel
theorem dX6_pieces_51 : decode cX6_pieces 51 = .ok (.iload 7, 2) := by decide +kernel
theorem dX6_pieces_53 : decode cX6_pieces 53 = .ok (.sipush 144, 3) := by decide +kernel
theorem dX6_pieces_56 : decode cX6_pieces 56 = .ok (.if_icmp .ge 56, 3) := by decide +kernel
theorem dX6_pieces_59 : decode cX6_pieces 59 = .ok (.aload_n 0, 1) := by decide +kernel
theorem dX6_pieces_60 : decode cX6_pieces 60 = .ok (.getfield 9, 3) := by decide +kernel
theorem dX6_pieces_63 : decode cX6_pieces 63 = .ok (.iload 7, 2) := by decide +kernel
theorem dX6_pieces_65 : decode cX6_pieces 65 = .ok (.iaload, 1) := by decide +kernel
theorem dX6_pieces_66 : decode cX6_pieces 66 = .ok (.ifCond .ne 40, 3) := by decide +kernel
theorem dX6_pieces_69 : decode cX6_pieces 69 = .ok (.aload_n 0, 1) := by decide +kernel
theorem dX6_pieces_70 : decode cX6_pieces 70 = .ok (.iload 7, 2) := by decide +kernel
theorem dX6_pieces_72 : decode cX6_pieces 72 = .ok (.invokevirtual 36, 3) := by decide +kernel
theorem dX6_pieces_75 : decode cX6_pieces 75 = .ok (.iinc 4 1, 3) := by decide +kernel
theorem dX6_pieces_78 : decode cX6_pieces 78 = .ok (.iload 5, 2) := by decide +kernel
theorem dX6_pieces_80 : decode cX6_pieces 80 = .ok (.aload_n 0, 1) := by decide +kernel
theorem dX6_pieces_81 : decode cX6_pieces 81 = .ok (.getfield 18, 3) := by decide +kernel
theorem dX6_pieces_84 : decode cX6_pieces 84 = .ok (.invokestatic 40, 3) := by decide +kernel
theorem dX6_pieces_87 : decode cX6_pieces 87 = .ok (.istore 5, 2) := by decide +kernel
theorem dX6_pieces_89 : decode cX6_pieces 89 = .ok (.iload 6, 2) := by decide +kernel
theorem dX6_pieces_91 : decode cX6_pieces 91 = .ok (.aload_n 0, 1) := by decide +kernel
theorem dX6_pieces_92 : decode cX6_pieces 92 = .ok (.getfield 22, 3) := by decide +kernel
theorem dX6_pieces_95 : decode cX6_pieces 95 = .ok (.ifCond .eq 7, 3) := by decide +kernel
theorem dX6_pieces_98 : decode cX6_pieces 98 = .ok (.iconst 0, 1) := by decide +kernel
theorem dX6_pieces_99 : decode cX6_pieces 99 = .ok (.goto 4, 3) := by decide +kernel
theorem dX6_pieces_102 : decode cX6_pieces 102 = .ok (.iconst 1, 1) := by decide +kernel
theorem dX6_pieces_103 : decode cX6_pieces 103 = .ok (.iadd, 1) := by decide +kernel
theorem dX6_pieces_104 : decode cX6_pieces 104 = .ok (.istore 6, 2) := by decide +kernel
theorem dX6_pieces_106 : decode cX6_pieces 106 = .ok (.iinc 7 1, 3) := by decide +kernel
theorem dX6_pieces_109 : decode cX6_pieces 109 = .ok (.goto (-58), 3) := by decide +kernel
theorem dX6_pieces_112 : decode cX6_pieces 112 = .ok (.iload_n 3, 1) := by decide +kernel
theorem dX6_pieces_113 : decode cX6_pieces 113 = .ok (.ifCond .ne 6, 3) := by decide +kernel
theorem dX6_pieces_116 : decode cX6_pieces 116 = .ok (.iload 4, 2) := by decide +kernel
theorem dX6_pieces_118 : decode cX6_pieces 118 = .ok (.ireturn, 1) := by decide +kernel
theorem dX6_pieces_119 : decode cX6_pieces 119 = .ok (.iload_n 3, 1) := by decide +kernel
theorem dX6_pieces_120 : decode cX6_pieces 120 = .ok (.iconst 1, 1) := by decide +kernel
theorem dX6_pieces_121 : decode cX6_pieces 121 = .ok (.if_icmp .ne 8, 3) := by decide +kernel
theorem dX6_pieces_124 : decode cX6_pieces 124 = .ok (.iload 5, 2) := by decide +kernel
theorem dX6_pieces_126 : decode cX6_pieces 126 = .ok (.goto 5, 3) := by decide +kernel
theorem dX6_pieces_129 : decode cX6_pieces 129 = .ok (.iload 6, 2) := by decide +kernel
theorem dX6_pieces_131 : decode cX6_pieces 131 = .ok (.ireturn, 1) := by decide +kernel
theorem dX6_spread_0 : decode cX6_spread 0 = .ok (.aload_n 0, 1) := by decide +kernel
theorem dX6_spread_1 : decode cX6_spread 1 = .ok (.iconst 0, 1) := by decide +kernel
theorem dX6_spread_2 : decode cX6_spread 2 = .ok (.putfield 18, 3) := by decide +kernel
theorem dX6_spread_5 : decode cX6_spread 5 = .ok (.aload_n 0, 1) := by decide +kernel
theorem dX6_spread_6 : decode cX6_spread 6 = .ok (.iconst 0, 1) := by decide +kernel
theorem dX6_spread_7 : decode cX6_spread 7 = .ok (.putfield 22, 3) := by decide +kernel
theorem dX6_spread_10 : decode cX6_spread 10 = .ok (.aload_n 0, 1) := by decide +kernel
theorem dX6_spread_11 : decode cX6_spread 11 = .ok (.iload_n 1, 1) := by decide +kernel
theorem dX6_spread_12 : decode cX6_spread 12 = .ok (.bipush 12, 2) := by decide +kernel
theorem dX6_spread_14 : decode cX6_spread 14 = .ok (.idiv, 1) := by decide +kernel
theorem dX6_spread_15 : decode cX6_spread 15 = .ok (.iload_n 1, 1) := by decide +kernel
theorem dX6_spread_16 : decode cX6_spread 16 = .ok (.bipush 12, 2) := by decide +kernel
theorem dX6_spread_18 : decode cX6_spread 18 = .ok (.irem, 1) := by decide +kernel
theorem dX6_spread_19 : decode cX6_spread 19 = .ok (.invokevirtual 46, 3) := by decide +kernel
theorem dX6_spread_22 : decode cX6_spread 22 = .ok (.iconst 0, 1) := by decide +kernel
theorem dX6_spread_23 : decode cX6_spread 23 = .ok (.istore_n 2, 1) := by decide +kernel
theorem dX6_spread_24 : decode cX6_spread 24 = .ok (.iload_n 2, 1) := by decide +kernel
theorem dX6_spread_25 : decode cX6_spread 25 = .ok (.aload_n 0, 1) := by decide +kernel
theorem dX6_spread_26 : decode cX6_spread 26 = .ok (.getfield 18, 3) := by decide +kernel
theorem dX6_spread_29 : decode cX6_spread 29 = .ok (.if_icmp .ge 111, 3) := by decide +kernel
theorem dX6_spread_32 : decode cX6_spread 32 = .ok (.iload_n 2, 1) := by decide +kernel
theorem dX6_spread_33 : decode cX6_spread 33 = .ok (.sipush 144, 3) := by decide +kernel
theorem dX6_spread_36 : decode cX6_spread 36 = .ok (.if_icmp .ge 104, 3) := by decide +kernel
theorem dX6_spread_39 : decode cX6_spread 39 = .ok (.aload_n 0, 1) := by decide +kernel
theorem dX6_spread_40 : decode cX6_spread 40 = .ok (.getfield 15, 3) := by decide +kernel
theorem dX6_spread_43 : decode cX6_spread 43 = .ok (.iload_n 2, 1) := by decide +kernel
theorem dX6_spread_44 : decode cX6_spread 44 = .ok (.iaload, 1) := by decide +kernel
theorem dX6_spread_45 : decode cX6_spread 45 = .ok (.bipush 12, 2) := by decide +kernel
theorem dX6_spread_47 : decode cX6_spread 47 = .ok (.idiv, 1) := by decide +kernel
theorem dX6_spread_48 : decode cX6_spread 48 = .ok (.istore_n 3, 1) := by decide +kernel
theorem dX6_spread_49 : decode cX6_spread 49 = .ok (.aload_n 0, 1) := by decide +kernel
theorem dX6_spread_50 : decode cX6_spread 50 = .ok (.getfield 15, 3) := by decide +kernel
theorem dX6_spread_53 : decode cX6_spread 53 = .ok (.iload_n 2, 1) := by decide +kernel
theorem dX6_spread_54 : decode cX6_spread 54 = .ok (.iaload, 1) := by decide +kernel
theorem dX6_spread_55 : decode cX6_spread 55 = .ok (.bipush 12, 2) := by decide +kernel
theorem dX6_spread_57 : decode cX6_spread 57 = .ok (.irem, 1) := by decide +kernel
theorem dX6_spread_58 : decode cX6_spread 58 = .ok (.istore 4, 2) := by decide +kernel
theorem dX6_spread_60 : decode cX6_spread 60 = .ok (.aload_n 0, 1) := by decide +kernel
theorem dX6_spread_61 : decode cX6_spread 61 = .ok (.aload_n 0, 1) := by decide +kernel
theorem dX6_spread_62 : decode cX6_spread 62 = .ok (.getfield 22, 3) := by decide +kernel
theorem dX6_spread_65 : decode cX6_spread 65 = .ok (.ifCond .ne 25, 3) := by decide +kernel
theorem dX6_spread_68 : decode cX6_spread 68 = .ok (.iload_n 3, 1) := by decide +kernel
theorem dX6_spread_69 : decode cX6_spread 69 = .ok (.ifCond .eq 21, 3) := by decide +kernel
theorem dX6_spread_72 : decode cX6_spread 72 = .ok (.iload_n 3, 1) := by decide +kernel
theorem dX6_spread_73 : decode cX6_spread 73 = .ok (.bipush 11, 2) := by decide +kernel
theorem dX6_spread_75 : decode cX6_spread 75 = .ok (.if_icmp .eq 15, 3) := by decide +kernel
theorem dX6_spread_78 : decode cX6_spread 78 = .ok (.iload 4, 2) := by decide +kernel
theorem dX6_spread_80 : decode cX6_spread 80 = .ok (.ifCond .eq 10, 3) := by decide +kernel
theorem dX6_spread_83 : decode cX6_spread 83 = .ok (.iload 4, 2) := by decide +kernel
theorem dX6_spread_85 : decode cX6_spread 85 = .ok (.bipush 11, 2) := by decide +kernel
theorem dX6_spread_87 : decode cX6_spread 87 = .ok (.if_icmp .ne 7, 3) := by decide +kernel
theorem dX6_spread_90 : decode cX6_spread 90 = .ok (.iconst 1, 1) := by decide +kernel
theorem dX6_spread_91 : decode cX6_spread 91 = .ok (.goto 4, 3) := by decide +kernel
theorem dX6_spread_94 : decode cX6_spread 94 = .ok (.iconst 0, 1) := by decide +kernel
theorem dX6_spread_95 : decode cX6_spread 95 = .ok (.putfield 22, 3) := by decide +kernel
theorem dX6_spread_98 : decode cX6_spread 98 = .ok (.aload_n 0, 1) := by decide +kernel
theorem dX6_spread_99 : decode cX6_spread 99 = .ok (.iload_n 3, 1) := by decide +kernel
theorem dX6_spread_100 : decode cX6_spread 100 = .ok (.iconst 1, 1) := by decide +kernel
theorem dX6_spread_101 : decode cX6_spread 101 = .ok (.iadd, 1) := by decide +kernel
theorem dX6_spread_102 : decode cX6_spread 102 = .ok (.iload 4, 2) := by decide +kernel
theorem dX6_spread_104 : decode cX6_spread 104 = .ok (.invokevirtual 46, 3) := by decide +kernel
theorem dX6_spread_107 : decode cX6_spread 107 = .ok (.aload_n 0, 1) := by decide +kernel
theorem dX6_spread_108 : decode cX6_spread 108 = .ok (.iload_n 3, 1) := by decide +kernel
theorem dX6_spread_109 : decode cX6_spread 109 = .ok (.iconst 1, 1) := by decide +kernel
theorem dX6_spread_110 : decode cX6_spread 110 = .ok (.isub, 1) := by decide +kernel
theorem dX6_spread_111 : decode cX6_spread 111 = .ok (.iload 4, 2) := by decide +kernel
theorem dX6_spread_113 : decode cX6_spread 113 = .ok (.invokevirtual 46, 3) := by decide +kernel
theorem dX6_spread_116 : decode cX6_spread 116 = .ok (.aload_n 0, 1) := by decide +kernel
theorem dX6_spread_117 : decode cX6_spread 117 = .ok (.iload_n 3, 1) := by decide +kernel
theorem dX6_spread_118 : decode cX6_spread 118 = .ok (.iload 4, 2) := by decide +kernel
theorem dX6_spread_120 : decode cX6_spread 120 = .ok (.iconst 1, 1) := by decide +kernel
theorem dX6_spread_121 : decode cX6_spread 121 = .ok (.iadd, 1) := by decide +kernel
theorem dX6_spread_122 : decode cX6_spread 122 = .ok (.invokevirtual 46, 3) := by decide +kernel
theorem dX6_spread_125 : decode cX6_spread 125 = .ok (.aload_n 0, 1) := by decide +kernel
theorem dX6_spread_126 : decode cX6_spread 126 = .ok (.iload_n 3, 1) := by decide +kernel
theorem dX6_spread_127 : decode cX6_spread 127 = .ok (.iload 4, 2) := by decide +kernel
theorem dX6_spread_129 : decode cX6_spread 129 = .ok (.iconst 1, 1) := by decide +kernel
theorem dX6_spread_130 : decode cX6_spread 130 = .ok (.isub, 1) := by decide +kernel
theorem dX6_spread_131 : decode cX6_spread 131 = .ok (.invokevirtual 46, 3) := by decide +kernel
theorem dX6_spread_134 : decode cX6_spread 134 = .ok (.iinc 2 1, 3) := by decide +kernel
theorem dX6_spread_137 : decode cX6_spread 137 = .ok (.goto (-113), 3) := by decide +kernel
theorem dX6_spread_140 : decode cX6_spread 140 = .ok (.return_, 1) := by decide +kernel
theorem dX6_reach_0 : decode cX6_reach 0 = .ok (.iload_n 1, 1) := by decide +kernel
theorem dX6_reach_1 : decode cX6_reach 1 = .ok (.iload_n 2, 1) := by decide +kernel
theorem dX6_reach_2 : decode cX6_reach 2 = .ok (.invokestatic 50, 3) := by decide +kernel
theorem dX6_reach_5 : decode cX6_reach 5 = .ok (.istore_n 3, 1) := by decide +kernel
theorem dX6_reach_6 : decode cX6_reach 6 = .ok (.iload_n 3, 1) := by decide +kernel
theorem dX6_reach_7 : decode cX6_reach 7 = .ok (.iconst (-1), 1) := by decide +kernel
theorem dX6_reach_8 : decode cX6_reach 8 = .ok (.if_icmp .eq 49, 3) := by decide +kernel
theorem dX6_reach_11 : decode cX6_reach 11 = .ok (.aload_n 0, 1) := by decide +kernel
theorem dX6_reach_12 : decode cX6_reach 12 = .ok (.getfield 9, 3) := by decide +kernel
theorem dX6_reach_15 : decode cX6_reach 15 = .ok (.iload_n 3, 1) := by decide +kernel
theorem dX6_reach_16 : decode cX6_reach 16 = .ok (.iaload, 1) := by decide +kernel
theorem dX6_reach_17 : decode cX6_reach 17 = .ok (.ifCond .ne 40, 3) := by decide +kernel
theorem dX6_reach_20 : decode cX6_reach 20 = .ok (.aload_n 0, 1) := by decide +kernel
theorem dX6_reach_21 : decode cX6_reach 21 = .ok (.getfield 18, 3) := by decide +kernel
theorem dX6_reach_24 : decode cX6_reach 24 = .ok (.sipush 144, 3) := by decide +kernel
theorem dX6_reach_27 : decode cX6_reach 27 = .ok (.if_icmp .ge 30, 3) := by decide +kernel
theorem dX6_reach_30 : decode cX6_reach 30 = .ok (.aload_n 0, 1) := by decide +kernel
theorem dX6_reach_31 : decode cX6_reach 31 = .ok (.getfield 9, 3) := by decide +kernel
theorem dX6_reach_34 : decode cX6_reach 34 = .ok (.iload_n 3, 1) := by decide +kernel
theorem dX6_reach_35 : decode cX6_reach 35 = .ok (.iconst 1, 1) := by decide +kernel
theorem dX6_reach_36 : decode cX6_reach 36 = .ok (.iastore, 1) := by decide +kernel
theorem dX6_reach_37 : decode cX6_reach 37 = .ok (.aload_n 0, 1) := by decide +kernel
theorem dX6_reach_38 : decode cX6_reach 38 = .ok (.getfield 15, 3) := by decide +kernel
theorem dX6_reach_41 : decode cX6_reach 41 = .ok (.aload_n 0, 1) := by decide +kernel
theorem dX6_reach_42 : decode cX6_reach 42 = .ok (.getfield 18, 3) := by decide +kernel
theorem dX6_reach_45 : decode cX6_reach 45 = .ok (.iload_n 3, 1) := by decide +kernel
theorem dX6_reach_46 : decode cX6_reach 46 = .ok (.iastore, 1) := by decide +kernel
theorem dX6_reach_47 : decode cX6_reach 47 = .ok (.aload_n 0, 1) := by decide +kernel
theorem dX6_reach_48 : decode cX6_reach 48 = .ok (.dup, 1) := by decide +kernel
theorem dX6_reach_49 : decode cX6_reach 49 = .ok (.getfield 18, 3) := by decide +kernel
theorem dX6_reach_52 : decode cX6_reach 52 = .ok (.iconst 1, 1) := by decide +kernel
theorem dX6_reach_53 : decode cX6_reach 53 = .ok (.iadd, 1) := by decide +kernel
theorem dX6_reach_54 : decode cX6_reach 54 = .ok (.putfield 18, 3) := by decide +kernel
theorem dX6_reach_57 : decode cX6_reach 57 = .ok (.return_, 1) := by decide +kernel
theorem dX6_unlike_0 : decode cX6_unlike 0 = .ok (.iconst 0, 1) := by decide +kernel
theorem dX6_unlike_1 : decode cX6_unlike 1 = .ok (.istore_n 2, 1) := by decide +kernel
theorem dX6_unlike_2 : decode cX6_unlike 2 = .ok (.iconst 0, 1) := by decide +kernel
theorem dX6_unlike_3 : decode cX6_unlike 3 = .ok (.istore_n 3, 1) := by decide +kernel
theorem dX6_unlike_4 : decode cX6_unlike 4 = .ok (.iload_n 3, 1) := by decide +kernel
theorem dX6_unlike_5 : decode cX6_unlike 5 = .ok (.bipush 12, 2) := by decide +kernel
theorem dX6_unlike_7 : decode cX6_unlike 7 = .ok (.if_icmp .ge 71, 3) := by decide +kernel
theorem dX6_unlike_10 : decode cX6_unlike 10 = .ok (.iconst 0, 1) := by decide +kernel
theorem dX6_unlike_11 : decode cX6_unlike 11 = .ok (.istore 4, 2) := by decide +kernel
theorem dX6_unlike_13 : decode cX6_unlike 13 = .ok (.iload 4, 2) := by decide +kernel
theorem dX6_unlike_15 : decode cX6_unlike 15 = .ok (.bipush 6, 2) := by decide +kernel
theorem dX6_unlike_17 : decode cX6_unlike 17 = .ok (.if_icmp .ge 55, 3) := by decide +kernel
theorem dX6_unlike_20 : decode cX6_unlike 20 = .ok (.aload_n 1, 1) := by decide +kernel
theorem dX6_unlike_21 : decode cX6_unlike 21 = .ok (.iload_n 3, 1) := by decide +kernel
theorem dX6_unlike_22 : decode cX6_unlike 22 = .ok (.bipush 12, 2) := by decide +kernel
theorem dX6_unlike_24 : decode cX6_unlike 24 = .ok (.imul, 1) := by decide +kernel
theorem dX6_unlike_25 : decode cX6_unlike 25 = .ok (.iload 4, 2) := by decide +kernel
theorem dX6_unlike_27 : decode cX6_unlike 27 = .ok (.iadd, 1) := by decide +kernel
theorem dX6_unlike_28 : decode cX6_unlike 28 = .ok (.invokevirtual 53, 3) := by decide +kernel
theorem dX6_unlike_31 : decode cX6_unlike 31 = .ok (.istore 5, 2) := by decide +kernel
theorem dX6_unlike_33 : decode cX6_unlike 33 = .ok (.aload_n 1, 1) := by decide +kernel
theorem dX6_unlike_34 : decode cX6_unlike 34 = .ok (.iload_n 3, 1) := by decide +kernel
theorem dX6_unlike_35 : decode cX6_unlike 35 = .ok (.bipush 12, 2) := by decide +kernel
theorem dX6_unlike_37 : decode cX6_unlike 37 = .ok (.imul, 1) := by decide +kernel
theorem dX6_unlike_38 : decode cX6_unlike 38 = .ok (.bipush 12, 2) := by decide +kernel
theorem dX6_unlike_40 : decode cX6_unlike 40 = .ok (.iadd, 1) := by decide +kernel
theorem dX6_unlike_41 : decode cX6_unlike 41 = .ok (.iconst 1, 1) := by decide +kernel
theorem dX6_unlike_42 : decode cX6_unlike 42 = .ok (.isub, 1) := by decide +kernel
theorem dX6_unlike_43 : decode cX6_unlike 43 = .ok (.iload 4, 2) := by decide +kernel
theorem dX6_unlike_45 : decode cX6_unlike 45 = .ok (.isub, 1) := by decide +kernel
theorem dX6_unlike_46 : decode cX6_unlike 46 = .ok (.invokevirtual 53, 3) := by decide +kernel
theorem dX6_unlike_49 : decode cX6_unlike 49 = .ok (.istore 6, 2) := by decide +kernel
theorem dX6_unlike_51 : decode cX6_unlike 51 = .ok (.iload_n 2, 1) := by decide +kernel
theorem dX6_unlike_52 : decode cX6_unlike 52 = .ok (.iload 5, 2) := by decide +kernel
theorem dX6_unlike_54 : decode cX6_unlike 54 = .ok (.iload 6, 2) := by decide +kernel
theorem dX6_unlike_56 : decode cX6_unlike 56 = .ok (.if_icmp .ne 7, 3) := by decide +kernel
theorem dX6_unlike_59 : decode cX6_unlike 59 = .ok (.iconst 0, 1) := by decide +kernel
theorem dX6_unlike_60 : decode cX6_unlike 60 = .ok (.goto 4, 3) := by decide +kernel
theorem dX6_unlike_63 : decode cX6_unlike 63 = .ok (.iconst 1, 1) := by decide +kernel
theorem dX6_unlike_64 : decode cX6_unlike 64 = .ok (.iadd, 1) := by decide +kernel
theorem dX6_unlike_65 : decode cX6_unlike 65 = .ok (.istore_n 2, 1) := by decide +kernel
theorem dX6_unlike_66 : decode cX6_unlike 66 = .ok (.iinc 4 1, 3) := by decide +kernel
theorem dX6_unlike_69 : decode cX6_unlike 69 = .ok (.goto (-56), 3) := by decide +kernel
theorem dX6_unlike_72 : decode cX6_unlike 72 = .ok (.iinc 3 1, 3) := by decide +kernel
theorem dX6_unlike_75 : decode cX6_unlike 75 = .ok (.goto (-71), 3) := by decide +kernel
theorem dX6_unlike_78 : decode cX6_unlike 78 = .ok (.iload_n 2, 1) := by decide +kernel
theorem dX6_unlike_79 : decode cX6_unlike 79 = .ok (.ireturn, 1) := by decide +kernel
theorem dX6_bareSquare_0 : decode cX6_bareSquare 0 = .ok (.iconst 0, 1) := by decide +kernel
theorem dX6_bareSquare_1 : decode cX6_bareSquare 1 = .ok (.istore_n 3, 1) := by decide +kernel
theorem dX6_bareSquare_2 : decode cX6_bareSquare 2 = .ok (.iconst (-1), 1) := by decide +kernel
theorem dX6_bareSquare_3 : decode cX6_bareSquare 3 = .ok (.istore 4, 2) := by decide +kernel
theorem dX6_bareSquare_5 : decode cX6_bareSquare 5 = .ok (.sipush 143, 3) := by decide +kernel
theorem dX6_bareSquare_8 : decode cX6_bareSquare 8 = .ok (.istore 5, 2) := by decide +kernel
theorem dX6_bareSquare_10 : decode cX6_bareSquare 10 = .ok (.iload 5, 2) := by decide +kernel
theorem dX6_bareSquare_12 : decode cX6_bareSquare 12 = .ok (.ifCond .lt 70, 3) := by decide +kernel
theorem dX6_bareSquare_15 : decode cX6_bareSquare 15 = .ok (.aload_n 0, 1) := by decide +kernel
theorem dX6_bareSquare_16 : decode cX6_bareSquare 16 = .ok (.getfield 9, 3) := by decide +kernel
theorem dX6_bareSquare_19 : decode cX6_bareSquare 19 = .ok (.iload 5, 2) := by decide +kernel
theorem dX6_bareSquare_21 : decode cX6_bareSquare 21 = .ok (.aload_n 1, 1) := by decide +kernel
theorem dX6_bareSquare_22 : decode cX6_bareSquare 22 = .ok (.iload 5, 2) := by decide +kernel
theorem dX6_bareSquare_24 : decode cX6_bareSquare 24 = .ok (.invokevirtual 30, 3) := by decide +kernel
theorem dX6_bareSquare_27 : decode cX6_bareSquare 27 = .ok (.ifCond .eq 7, 3) := by decide +kernel
theorem dX6_bareSquare_30 : decode cX6_bareSquare 30 = .ok (.iconst 0, 1) := by decide +kernel
theorem dX6_bareSquare_31 : decode cX6_bareSquare 31 = .ok (.goto 11, 3) := by decide +kernel
theorem dX6_bareSquare_34 : decode cX6_bareSquare 34 = .ok (.iconst 1, 1) := by decide +kernel
theorem dX6_bareSquare_35 : decode cX6_bareSquare 35 = .ok (.aload_n 0, 1) := by decide +kernel
theorem dX6_bareSquare_36 : decode cX6_bareSquare 36 = .ok (.iload 5, 2) := by decide +kernel
theorem dX6_bareSquare_38 : decode cX6_bareSquare 38 = .ok (.invokevirtual 57, 3) := by decide +kernel
theorem dX6_bareSquare_41 : decode cX6_bareSquare 41 = .ok (.iadd, 1) := by decide +kernel
theorem dX6_bareSquare_42 : decode cX6_bareSquare 42 = .ok (.iastore, 1) := by decide +kernel
theorem dX6_bareSquare_43 : decode cX6_bareSquare 43 = .ok (.aload_n 0, 1) := by decide +kernel
theorem dX6_bareSquare_44 : decode cX6_bareSquare 44 = .ok (.getfield 9, 3) := by decide +kernel
theorem dX6_bareSquare_47 : decode cX6_bareSquare 47 = .ok (.iload 5, 2) := by decide +kernel
theorem dX6_bareSquare_49 : decode cX6_bareSquare 49 = .ok (.iaload, 1) := by decide +kernel
theorem dX6_bareSquare_50 : decode cX6_bareSquare 50 = .ok (.ifCond .le 26, 3) := by decide +kernel
theorem dX6_bareSquare_53 : decode cX6_bareSquare 53 = .ok (.aload_n 0, 1) := by decide +kernel
theorem dX6_bareSquare_54 : decode cX6_bareSquare 54 = .ok (.getfield 9, 3) := by decide +kernel
theorem dX6_bareSquare_57 : decode cX6_bareSquare 57 = .ok (.iload 5, 2) := by decide +kernel
theorem dX6_bareSquare_59 : decode cX6_bareSquare 59 = .ok (.iaload, 1) := by decide +kernel
theorem dX6_bareSquare_60 : decode cX6_bareSquare 60 = .ok (.iload_n 3, 1) := by decide +kernel
theorem dX6_bareSquare_61 : decode cX6_bareSquare 61 = .ok (.if_icmp .lt 15, 3) := by decide +kernel
theorem dX6_bareSquare_64 : decode cX6_bareSquare 64 = .ok (.aload_n 0, 1) := by decide +kernel
theorem dX6_bareSquare_65 : decode cX6_bareSquare 65 = .ok (.getfield 9, 3) := by decide +kernel
theorem dX6_bareSquare_68 : decode cX6_bareSquare 68 = .ok (.iload 5, 2) := by decide +kernel
theorem dX6_bareSquare_70 : decode cX6_bareSquare 70 = .ok (.iaload, 1) := by decide +kernel
theorem dX6_bareSquare_71 : decode cX6_bareSquare 71 = .ok (.istore_n 3, 1) := by decide +kernel
theorem dX6_bareSquare_72 : decode cX6_bareSquare 72 = .ok (.iload 5, 2) := by decide +kernel
theorem dX6_bareSquare_74 : decode cX6_bareSquare 74 = .ok (.istore 4, 2) := by decide +kernel
theorem dX6_bareSquare_76 : decode cX6_bareSquare 76 = .ok (.iinc 5 (-1), 3) := by decide +kernel
theorem dX6_bareSquare_79 : decode cX6_bareSquare 79 = .ok (.goto (-69), 3) := by decide +kernel
theorem dX6_bareSquare_82 : decode cX6_bareSquare 82 = .ok (.iload_n 2, 1) := by decide +kernel
theorem dX6_bareSquare_83 : decode cX6_bareSquare 83 = .ok (.ifCond .ne 5, 3) := by decide +kernel
theorem dX6_bareSquare_86 : decode cX6_bareSquare 86 = .ok (.iload_n 3, 1) := by decide +kernel
theorem dX6_bareSquare_87 : decode cX6_bareSquare 87 = .ok (.ireturn, 1) := by decide +kernel
theorem dX6_bareSquare_88 : decode cX6_bareSquare 88 = .ok (.iload 4, 2) := by decide +kernel
theorem dX6_bareSquare_90 : decode cX6_bareSquare 90 = .ok (.iconst (-1), 1) := by decide +kernel
theorem dX6_bareSquare_91 : decode cX6_bareSquare 91 = .ok (.if_icmp .ne 5, 3) := by decide +kernel
theorem dX6_bareSquare_94 : decode cX6_bareSquare 94 = .ok (.iconst (-1), 1) := by decide +kernel
theorem dX6_bareSquare_95 : decode cX6_bareSquare 95 = .ok (.ireturn, 1) := by decide +kernel
theorem dX6_bareSquare_96 : decode cX6_bareSquare 96 = .ok (.iload_n 2, 1) := by decide +kernel
theorem dX6_bareSquare_97 : decode cX6_bareSquare 97 = .ok (.iconst 1, 1) := by decide +kernel
theorem dX6_bareSquare_98 : decode cX6_bareSquare 98 = .ok (.if_icmp .ne 11, 3) := by decide +kernel
theorem dX6_bareSquare_101 : decode cX6_bareSquare 101 = .ok (.iload 4, 2) := by decide +kernel
theorem dX6_bareSquare_103 : decode cX6_bareSquare 103 = .ok (.bipush 12, 2) := by decide +kernel
theorem dX6_bareSquare_105 : decode cX6_bareSquare 105 = .ok (.idiv, 1) := by decide +kernel
theorem dX6_bareSquare_106 : decode cX6_bareSquare 106 = .ok (.goto 8, 3) := by decide +kernel
theorem dX6_bareSquare_109 : decode cX6_bareSquare 109 = .ok (.iload 4, 2) := by decide +kernel
theorem dX6_bareSquare_111 : decode cX6_bareSquare 111 = .ok (.bipush 12, 2) := by decide +kernel
theorem dX6_bareSquare_113 : decode cX6_bareSquare 113 = .ok (.irem, 1) := by decide +kernel
theorem dX6_bareSquare_114 : decode cX6_bareSquare 114 = .ok (.ireturn, 1) := by decide +kernel
theorem dX6_squareBehind_0 : decode cX6_squareBehind 0 = .ok (.iload_n 1, 1) := by decide +kernel
theorem dX6_squareBehind_1 : decode cX6_squareBehind 1 = .ok (.ifCond .lt 24, 3) := by decide +kernel
theorem dX6_squareBehind_4 : decode cX6_squareBehind 4 = .ok (.iload_n 1, 1) := by decide +kernel
theorem dX6_squareBehind_5 : decode cX6_squareBehind 5 = .ok (.bipush 12, 2) := by decide +kernel
theorem dX6_squareBehind_7 : decode cX6_squareBehind 7 = .ok (.iadd, 1) := by decide +kernel
theorem dX6_squareBehind_8 : decode cX6_squareBehind 8 = .ok (.iconst 1, 1) := by decide +kernel
theorem dX6_squareBehind_9 : decode cX6_squareBehind 9 = .ok (.iadd, 1) := by decide +kernel
theorem dX6_squareBehind_10 : decode cX6_squareBehind 10 = .ok (.sipush 144, 3) := by decide +kernel
theorem dX6_squareBehind_13 : decode cX6_squareBehind 13 = .ok (.if_icmp .ge 12, 3) := by decide +kernel
theorem dX6_squareBehind_16 : decode cX6_squareBehind 16 = .ok (.iload_n 1, 1) := by decide +kernel
theorem dX6_squareBehind_17 : decode cX6_squareBehind 17 = .ok (.bipush 12, 2) := by decide +kernel
theorem dX6_squareBehind_19 : decode cX6_squareBehind 19 = .ok (.irem, 1) := by decide +kernel
theorem dX6_squareBehind_20 : decode cX6_squareBehind 20 = .ok (.bipush 11, 2) := by decide +kernel
theorem dX6_squareBehind_22 : decode cX6_squareBehind 22 = .ok (.if_icmp .ne 5, 3) := by decide +kernel
theorem dX6_squareBehind_25 : decode cX6_squareBehind 25 = .ok (.iconst 0, 1) := by decide +kernel
theorem dX6_squareBehind_26 : decode cX6_squareBehind 26 = .ok (.ireturn, 1) := by decide +kernel
theorem dX6_squareBehind_27 : decode cX6_squareBehind 27 = .ok (.aload_n 0, 1) := by decide +kernel
theorem dX6_squareBehind_28 : decode cX6_squareBehind 28 = .ok (.getfield 9, 3) := by decide +kernel
theorem dX6_squareBehind_31 : decode cX6_squareBehind 31 = .ok (.iload_n 1, 1) := by decide +kernel
theorem dX6_squareBehind_32 : decode cX6_squareBehind 32 = .ok (.iconst 1, 1) := by decide +kernel
theorem dX6_squareBehind_33 : decode cX6_squareBehind 33 = .ok (.iadd, 1) := by decide +kernel
theorem dX6_squareBehind_34 : decode cX6_squareBehind 34 = .ok (.iaload, 1) := by decide +kernel
theorem dX6_squareBehind_35 : decode cX6_squareBehind 35 = .ok (.aload_n 0, 1) := by decide +kernel
theorem dX6_squareBehind_36 : decode cX6_squareBehind 36 = .ok (.getfield 9, 3) := by decide +kernel
theorem dX6_squareBehind_39 : decode cX6_squareBehind 39 = .ok (.iload_n 1, 1) := by decide +kernel
theorem dX6_squareBehind_40 : decode cX6_squareBehind 40 = .ok (.bipush 12, 2) := by decide +kernel
theorem dX6_squareBehind_42 : decode cX6_squareBehind 42 = .ok (.iadd, 1) := by decide +kernel
theorem dX6_squareBehind_43 : decode cX6_squareBehind 43 = .ok (.iaload, 1) := by decide +kernel
theorem dX6_squareBehind_44 : decode cX6_squareBehind 44 = .ok (.aload_n 0, 1) := by decide +kernel
theorem dX6_squareBehind_45 : decode cX6_squareBehind 45 = .ok (.getfield 9, 3) := by decide +kernel
theorem dX6_squareBehind_48 : decode cX6_squareBehind 48 = .ok (.iload_n 1, 1) := by decide +kernel
theorem dX6_squareBehind_49 : decode cX6_squareBehind 49 = .ok (.bipush 12, 2) := by decide +kernel
theorem dX6_squareBehind_51 : decode cX6_squareBehind 51 = .ok (.iadd, 1) := by decide +kernel
theorem dX6_squareBehind_52 : decode cX6_squareBehind 52 = .ok (.iconst 1, 1) := by decide +kernel
theorem dX6_squareBehind_53 : decode cX6_squareBehind 53 = .ok (.iadd, 1) := by decide +kernel
theorem dX6_squareBehind_54 : decode cX6_squareBehind 54 = .ok (.iaload, 1) := by decide +kernel
theorem dX6_squareBehind_55 : decode cX6_squareBehind 55 = .ok (.invokestatic 60, 3) := by decide +kernel
theorem dX6_squareBehind_58 : decode cX6_squareBehind 58 = .ok (.invokestatic 60, 3) := by decide +kernel
theorem dX6_squareBehind_61 : decode cX6_squareBehind 61 = .ok (.ireturn, 1) := by decide +kernel
theorem dX7_init_0 : decode cX7_init 0 = .ok (.aload_n 0, 1) := by decide +kernel
theorem dX7_init_1 : decode cX7_init 1 = .ok (.invokespecial 3, 3) := by decide +kernel
theorem dX7_init_4 : decode cX7_init 4 = .ok (.aload_n 0, 1) := by decide +kernel
theorem dX7_init_5 : decode cX7_init 5 = .ok (.bipush 6, 2) := by decide +kernel
theorem dX7_init_7 : decode cX7_init 7 = .ok (.anewarray 9, 3) := by decide +kernel
theorem dX7_init_10 : decode cX7_init 10 = .ok (.putfield 11, 3) := by decide +kernel
theorem dX7_init_13 : decode cX7_init 13 = .ok (.aload_n 0, 1) := by decide +kernel
theorem dX7_init_14 : decode cX7_init 14 = .ok (.iconst 0, 1) := by decide +kernel
theorem dX7_init_15 : decode cX7_init 15 = .ok (.putfield 17, 3) := by decide +kernel
theorem dX7_init_18 : decode cX7_init 18 = .ok (.aload_n 0, 1) := by decide +kernel
theorem dX7_init_19 : decode cX7_init 19 = .ok (.iconst 0, 1) := by decide +kernel
theorem dX7_init_20 : decode cX7_init 20 = .ok (.putfield 21, 3) := by decide +kernel
theorem dX7_init_23 : decode cX7_init 23 = .ok (.iconst 0, 1) := by decide +kernel
theorem dX7_init_24 : decode cX7_init 24 = .ok (.istore_n 1, 1) := by decide +kernel
theorem dX7_init_25 : decode cX7_init 25 = .ok (.iload_n 1, 1) := by decide +kernel
theorem dX7_init_26 : decode cX7_init 26 = .ok (.bipush 6, 2) := by decide +kernel
theorem dX7_init_28 : decode cX7_init 28 = .ok (.if_icmp .ge 22, 3) := by decide +kernel
theorem dX7_init_31 : decode cX7_init 31 = .ok (.aload_n 0, 1) := by decide +kernel
theorem dX7_init_32 : decode cX7_init 32 = .ok (.getfield 11, 3) := by decide +kernel
theorem dX7_init_35 : decode cX7_init 35 = .ok (.iload_n 1, 1) := by decide +kernel
theorem dX7_init_36 : decode cX7_init 36 = .ok (.new 9, 3) := by decide +kernel
theorem dX7_init_39 : decode cX7_init 39 = .ok (.dup, 1) := by decide +kernel
theorem dX7_init_40 : decode cX7_init 40 = .ok (.invokespecial 24, 3) := by decide +kernel
theorem dX7_init_43 : decode cX7_init 43 = .ok (.aastore, 1) := by decide +kernel
theorem dX7_init_44 : decode cX7_init 44 = .ok (.iinc 1 1, 3) := by decide +kernel
theorem dX7_init_47 : decode cX7_init 47 = .ok (.goto (-22), 3) := by decide +kernel
theorem dX7_init_50 : decode cX7_init 50 = .ok (.return_, 1) := by decide +kernel
theorem dX7_keep_0 : decode cX7_keep 0 = .ok (.aload_n 0, 1) := by decide +kernel
theorem dX7_keep_1 : decode cX7_keep 1 = .ok (.getfield 17, 3) := by decide +kernel
theorem dX7_keep_4 : decode cX7_keep 4 = .ok (.ifCond .lt 12, 3) := by decide +kernel
theorem dX7_keep_7 : decode cX7_keep 7 = .ok (.aload_n 0, 1) := by decide +kernel
theorem dX7_keep_8 : decode cX7_keep 8 = .ok (.getfield 17, 3) := by decide +kernel
theorem dX7_keep_11 : decode cX7_keep 11 = .ok (.bipush 6, 2) := by decide +kernel
theorem dX7_keep_13 : decode cX7_keep 13 = .ok (.if_icmp .lt 4, 3) := by decide +kernel
theorem dX7_keep_16 : decode cX7_keep 16 = .ok (.return_, 1) := by decide +kernel
theorem dX7_keep_17 : decode cX7_keep 17 = .ok (.aload_n 0, 1) := by decide +kernel
theorem dX7_keep_18 : decode cX7_keep 18 = .ok (.getfield 11, 3) := by decide +kernel
theorem dX7_keep_21 : decode cX7_keep 21 = .ok (.aload_n 0, 1) := by decide +kernel
theorem dX7_keep_22 : decode cX7_keep 22 = .ok (.getfield 17, 3) := by decide +kernel
theorem dX7_keep_25 : decode cX7_keep 25 = .ok (.aaload, 1) := by decide +kernel
theorem dX7_keep_26 : decode cX7_keep 26 = .ok (.aload_n 1, 1) := by decide +kernel
theorem dX7_keep_27 : decode cX7_keep 27 = .ok (.invokevirtual 25, 3) := by decide +kernel
theorem dX7_keep_30 : decode cX7_keep 30 = .ok (.aload_n 0, 1) := by decide +kernel
theorem dX7_keep_31 : decode cX7_keep 31 = .ok (.aload_n 0, 1) := by decide +kernel
theorem dX7_keep_32 : decode cX7_keep 32 = .ok (.getfield 17, 3) := by decide +kernel
theorem dX7_keep_35 : decode cX7_keep 35 = .ok (.iconst 1, 1) := by decide +kernel
theorem dX7_keep_36 : decode cX7_keep 36 = .ok (.iadd, 1) := by decide +kernel
theorem dX7_keep_37 : decode cX7_keep 37 = .ok (.bipush 6, 2) := by decide +kernel
theorem dX7_keep_39 : decode cX7_keep 39 = .ok (.if_icmp .ge 12, 3) := by decide +kernel
theorem dX7_keep_42 : decode cX7_keep 42 = .ok (.aload_n 0, 1) := by decide +kernel
theorem dX7_keep_43 : decode cX7_keep 43 = .ok (.getfield 17, 3) := by decide +kernel
theorem dX7_keep_46 : decode cX7_keep 46 = .ok (.iconst 1, 1) := by decide +kernel
theorem dX7_keep_47 : decode cX7_keep 47 = .ok (.iadd, 1) := by decide +kernel
theorem dX7_keep_48 : decode cX7_keep 48 = .ok (.goto 4, 3) := by decide +kernel
theorem dX7_keep_51 : decode cX7_keep 51 = .ok (.iconst 0, 1) := by decide +kernel
theorem dX7_keep_52 : decode cX7_keep 52 = .ok (.putfield 17, 3) := by decide +kernel
theorem dX7_keep_55 : decode cX7_keep 55 = .ok (.aload_n 0, 1) := by decide +kernel
theorem dX7_keep_56 : decode cX7_keep 56 = .ok (.aload_n 0, 1) := by decide +kernel
theorem dX7_keep_57 : decode cX7_keep 57 = .ok (.getfield 21, 3) := by decide +kernel
theorem dX7_keep_60 : decode cX7_keep 60 = .ok (.iconst 1, 1) := by decide +kernel
theorem dX7_keep_61 : decode cX7_keep 61 = .ok (.iadd, 1) := by decide +kernel
theorem dX7_keep_62 : decode cX7_keep 62 = .ok (.bipush 6, 2) := by decide +kernel
theorem dX7_keep_64 : decode cX7_keep 64 = .ok (.invokestatic 29, 3) := by decide +kernel
theorem dX7_keep_67 : decode cX7_keep 67 = .ok (.putfield 21, 3) := by decide +kernel
theorem dX7_keep_70 : decode cX7_keep 70 = .ok (.return_, 1) := by decide +kernel
theorem dX7_goBack_0 : decode cX7_goBack 0 = .ok (.aload_n 0, 1) := by decide +kernel
theorem dX7_goBack_1 : decode cX7_goBack 1 = .ok (.getfield 21, 3) := by decide +kernel
theorem dX7_goBack_4 : decode cX7_goBack 4 = .ok (.ifCond .eq 19, 3) := by decide +kernel
theorem dX7_goBack_7 : decode cX7_goBack 7 = .ok (.aload_n 0, 1) := by decide +kernel
theorem dX7_goBack_8 : decode cX7_goBack 8 = .ok (.getfield 17, 3) := by decide +kernel
theorem dX7_goBack_11 : decode cX7_goBack 11 = .ok (.ifCond .lt 12, 3) := by decide +kernel
theorem dX7_goBack_14 : decode cX7_goBack 14 = .ok (.aload_n 0, 1) := by decide +kernel
theorem dX7_goBack_15 : decode cX7_goBack 15 = .ok (.getfield 17, 3) := by decide +kernel
theorem dX7_goBack_18 : decode cX7_goBack 18 = .ok (.bipush 6, 2) := by decide +kernel
theorem dX7_goBack_20 : decode cX7_goBack 20 = .ok (.if_icmp .lt 5, 3) := by decide +kernel
theorem dX7_goBack_23 : decode cX7_goBack 23 = .ok (.iconst 0, 1) := by decide +kernel
theorem dX7_goBack_24 : decode cX7_goBack 24 = .ok (.ireturn, 1) := by decide +kernel
theorem dX7_goBack_25 : decode cX7_goBack 25 = .ok (.aload_n 0, 1) := by decide +kernel
theorem dX7_goBack_26 : decode cX7_goBack 26 = .ok (.aload_n 0, 1) := by decide +kernel
theorem dX7_goBack_27 : decode cX7_goBack 27 = .ok (.getfield 17, 3) := by decide +kernel
theorem dX7_goBack_30 : decode cX7_goBack 30 = .ok (.ifCond .le 12, 3) := by decide +kernel
theorem dX7_goBack_33 : decode cX7_goBack 33 = .ok (.aload_n 0, 1) := by decide +kernel
theorem dX7_goBack_34 : decode cX7_goBack 34 = .ok (.getfield 17, 3) := by decide +kernel
theorem dX7_goBack_37 : decode cX7_goBack 37 = .ok (.iconst 1, 1) := by decide +kernel
theorem dX7_goBack_38 : decode cX7_goBack 38 = .ok (.isub, 1) := by decide +kernel
theorem dX7_goBack_39 : decode cX7_goBack 39 = .ok (.goto 4, 3) := by decide +kernel
theorem dX7_goBack_42 : decode cX7_goBack 42 = .ok (.iconst 5, 1) := by decide +kernel
theorem dX7_goBack_43 : decode cX7_goBack 43 = .ok (.putfield 17, 3) := by decide +kernel
theorem dX7_goBack_46 : decode cX7_goBack 46 = .ok (.aload_n 0, 1) := by decide +kernel
theorem dX7_goBack_47 : decode cX7_goBack 47 = .ok (.dup, 1) := by decide +kernel
theorem dX7_goBack_48 : decode cX7_goBack 48 = .ok (.getfield 21, 3) := by decide +kernel
theorem dX7_goBack_51 : decode cX7_goBack 51 = .ok (.iconst 1, 1) := by decide +kernel
theorem dX7_goBack_52 : decode cX7_goBack 52 = .ok (.isub, 1) := by decide +kernel
theorem dX7_goBack_53 : decode cX7_goBack 53 = .ok (.putfield 21, 3) := by decide +kernel
theorem dX7_goBack_56 : decode cX7_goBack 56 = .ok (.aload_n 1, 1) := by decide +kernel
theorem dX7_goBack_57 : decode cX7_goBack 57 = .ok (.aload_n 0, 1) := by decide +kernel
theorem dX7_goBack_58 : decode cX7_goBack 58 = .ok (.getfield 11, 3) := by decide +kernel
theorem dX7_goBack_61 : decode cX7_goBack 61 = .ok (.aload_n 0, 1) := by decide +kernel
theorem dX7_goBack_62 : decode cX7_goBack 62 = .ok (.getfield 17, 3) := by decide +kernel
theorem dX7_goBack_65 : decode cX7_goBack 65 = .ok (.aaload, 1) := by decide +kernel
theorem dX7_goBack_66 : decode cX7_goBack 66 = .ok (.invokevirtual 25, 3) := by decide +kernel
theorem dX7_goBack_69 : decode cX7_goBack 69 = .ok (.iconst 1, 1) := by decide +kernel
theorem dX7_goBack_70 : decode cX7_goBack 70 = .ok (.ireturn, 1) := by decide +kernel
theorem dX7_forget_0 : decode cX7_forget 0 = .ok (.aload_n 0, 1) := by decide +kernel
theorem dX7_forget_1 : decode cX7_forget 1 = .ok (.iconst 0, 1) := by decide +kernel
theorem dX7_forget_2 : decode cX7_forget 2 = .ok (.putfield 21, 3) := by decide +kernel
theorem dX7_forget_5 : decode cX7_forget 5 = .ok (.return_, 1) := by decide +kernel
theorem dX8_init_0 : decode cX8_init 0 = .ok (.aload_n 0, 1) := by decide +kernel
theorem dX8_init_1 : decode cX8_init 1 = .ok (.invokespecial 3, 3) := by decide +kernel
theorem dX8_init_4 : decode cX8_init 4 = .ok (.aload_n 0, 1) := by decide +kernel
theorem dX8_init_5 : decode cX8_init 5 = .ok (.aload_n 1, 1) := by decide +kernel
theorem dX8_init_6 : decode cX8_init 6 = .ok (.putfield 9, 3) := by decide +kernel
theorem dX8_init_9 : decode cX8_init 9 = .ok (.aload_n 0, 1) := by decide +kernel
theorem dX8_init_10 : decode cX8_init 10 = .ok (.iload_n 2, 1) := by decide +kernel
theorem dX8_init_11 : decode cX8_init 11 = .ok (.putfield 15, 3) := by decide +kernel
theorem dX8_init_14 : decode cX8_init 14 = .ok (.aload_n 0, 1) := by decide +kernel
theorem dX8_init_15 : decode cX8_init 15 = .ok (.aload_n 3, 1) := by decide +kernel
theorem dX8_init_16 : decode cX8_init 16 = .ok (.putfield 19, 3) := by decide +kernel
theorem dX8_init_19 : decode cX8_init 19 = .ok (.return_, 1) := by decide +kernel
theorem dX8_number_0 : decode cX8_number 0 = .ok (.iload_n 1, 1) := by decide +kernel
theorem dX8_number_1 : decode cX8_number 1 = .ok (.ifCond .lt 37, 3) := by decide +kernel
theorem dX8_number_4 : decode cX8_number 4 = .ok (.iload_n 1, 1) := by decide +kernel
theorem dX8_number_5 : decode cX8_number 5 = .ok (.aload_n 0, 1) := by decide +kernel
theorem dX8_number_6 : decode cX8_number 6 = .ok (.getfield 15, 3) := by decide +kernel
theorem dX8_number_9 : decode cX8_number 9 = .ok (.if_icmp .ge 29, 3) := by decide +kernel
theorem dX8_number_12 : decode cX8_number 12 = .ok (.iload_n 2, 1) := by decide +kernel
theorem dX8_number_13 : decode cX8_number 13 = .ok (.ifCond .lt 25, 3) := by decide +kernel
theorem dX8_number_16 : decode cX8_number 16 = .ok (.iload_n 2, 1) := by decide +kernel
theorem dX8_number_17 : decode cX8_number 17 = .ok (.iconst 5, 1) := by decide +kernel
theorem dX8_number_18 : decode cX8_number 18 = .ok (.if_icmp .ge 20, 3) := by decide +kernel
theorem dX8_number_21 : decode cX8_number 21 = .ok (.iload_n 1, 1) := by decide +kernel
theorem dX8_number_22 : decode cX8_number 22 = .ok (.iconst 5, 1) := by decide +kernel
theorem dX8_number_23 : decode cX8_number 23 = .ok (.imul, 1) := by decide +kernel
theorem dX8_number_24 : decode cX8_number 24 = .ok (.iload_n 2, 1) := by decide +kernel
theorem dX8_number_25 : decode cX8_number 25 = .ok (.iadd, 1) := by decide +kernel
theorem dX8_number_26 : decode cX8_number 26 = .ok (.aload_n 0, 1) := by decide +kernel
theorem dX8_number_27 : decode cX8_number 27 = .ok (.getfield 9, 3) := by decide +kernel
theorem dX8_number_30 : decode cX8_number 30 = .ok (.arraylength, 1) := by decide +kernel
theorem dX8_number_31 : decode cX8_number 31 = .ok (.if_icmp .ge 7, 3) := by decide +kernel
theorem dX8_number_34 : decode cX8_number 34 = .ok (.iconst 1, 1) := by decide +kernel
theorem dX8_number_35 : decode cX8_number 35 = .ok (.goto 4, 3) := by decide +kernel
theorem dX8_number_38 : decode cX8_number 38 = .ok (.iconst 0, 1) := by decide +kernel
theorem dX8_number_39 : decode cX8_number 39 = .ok (.istore_n 3, 1) := by decide +kernel
theorem dX8_number_40 : decode cX8_number 40 = .ok (.iload_n 3, 1) := by decide +kernel
theorem dX8_number_41 : decode cX8_number 41 = .ok (.ifCond .eq 16, 3) := by decide +kernel
theorem dX8_number_44 : decode cX8_number 44 = .ok (.aload_n 0, 1) := by decide +kernel
theorem dX8_number_45 : decode cX8_number 45 = .ok (.getfield 9, 3) := by decide +kernel
theorem dX8_number_48 : decode cX8_number 48 = .ok (.iload_n 1, 1) := by decide +kernel
theorem dX8_number_49 : decode cX8_number 49 = .ok (.iconst 5, 1) := by decide +kernel
theorem dX8_number_50 : decode cX8_number 50 = .ok (.imul, 1) := by decide +kernel
theorem dX8_number_51 : decode cX8_number 51 = .ok (.iload_n 2, 1) := by decide +kernel
theorem dX8_number_52 : decode cX8_number 52 = .ok (.iadd, 1) := by decide +kernel
theorem dX8_number_53 : decode cX8_number 53 = .ok (.iaload, 1) := by decide +kernel
theorem dX8_number_54 : decode cX8_number 54 = .ok (.goto 4, 3) := by decide +kernel
theorem dX8_number_57 : decode cX8_number 57 = .ok (.iconst 0, 1) := by decide +kernel
theorem dX8_number_58 : decode cX8_number 58 = .ok (.ireturn, 1) := by decide +kernel
theorem dX8_tells_0 : decode cX8_tells 0 = .ok (.iconst 0, 1) := by decide +kernel
theorem dX8_tells_1 : decode cX8_tells 1 = .ok (.istore 5, 2) := by decide +kernel
theorem dX8_tells_3 : decode cX8_tells 3 = .ok (.iload 5, 2) := by decide +kernel
theorem dX8_tells_5 : decode cX8_tells 5 = .ok (.aload_n 0, 1) := by decide +kernel
theorem dX8_tells_6 : decode cX8_tells 6 = .ok (.getfield 15, 3) := by decide +kernel
theorem dX8_tells_9 : decode cX8_tells 9 = .ok (.if_icmp .ge 80, 3) := by decide +kernel
theorem dX8_tells_12 : decode cX8_tells 12 = .ok (.aload_n 0, 1) := by decide +kernel
theorem dX8_tells_13 : decode cX8_tells 13 = .ok (.iload 5, 2) := by decide +kernel
theorem dX8_tells_15 : decode cX8_tells 15 = .ok (.iconst 0, 1) := by decide +kernel
theorem dX8_tells_16 : decode cX8_tells 16 = .ok (.invokevirtual 22, 3) := by decide +kernel
theorem dX8_tells_19 : decode cX8_tells 19 = .ok (.iload_n 1, 1) := by decide +kernel
theorem dX8_tells_20 : decode cX8_tells 20 = .ok (.if_icmp .ne 63, 3) := by decide +kernel
theorem dX8_tells_23 : decode cX8_tells 23 = .ok (.aload_n 0, 1) := by decide +kernel
theorem dX8_tells_24 : decode cX8_tells 24 = .ok (.iload 5, 2) := by decide +kernel
theorem dX8_tells_26 : decode cX8_tells 26 = .ok (.iconst 1, 1) := by decide +kernel
theorem dX8_tells_27 : decode cX8_tells 27 = .ok (.invokevirtual 22, 3) := by decide +kernel
theorem dX8_tells_30 : decode cX8_tells 30 = .ok (.istore 6, 2) := by decide +kernel
theorem dX8_tells_32 : decode cX8_tells 32 = .ok (.aload_n 0, 1) := by decide +kernel
theorem dX8_tells_33 : decode cX8_tells 33 = .ok (.iload 5, 2) := by decide +kernel
theorem dX8_tells_35 : decode cX8_tells 35 = .ok (.iconst 2, 1) := by decide +kernel
theorem dX8_tells_36 : decode cX8_tells 36 = .ok (.invokevirtual 22, 3) := by decide +kernel
theorem dX8_tells_39 : decode cX8_tells 39 = .ok (.istore 7, 2) := by decide +kernel
theorem dX8_tells_41 : decode cX8_tells 41 = .ok (.aload_n 0, 1) := by decide +kernel
theorem dX8_tells_42 : decode cX8_tells 42 = .ok (.iload 5, 2) := by decide +kernel
theorem dX8_tells_44 : decode cX8_tells 44 = .ok (.iconst 3, 1) := by decide +kernel
theorem dX8_tells_45 : decode cX8_tells 45 = .ok (.invokevirtual 22, 3) := by decide +kernel
theorem dX8_tells_48 : decode cX8_tells 48 = .ok (.istore 8, 2) := by decide +kernel
theorem dX8_tells_50 : decode cX8_tells 50 = .ok (.iload 7, 2) := by decide +kernel
theorem dX8_tells_52 : decode cX8_tells 52 = .ok (.iload 8, 2) := by decide +kernel
theorem dX8_tells_54 : decode cX8_tells 54 = .ok (.if_icmp .eq 17, 3) := by decide +kernel
theorem dX8_tells_57 : decode cX8_tells 57 = .ok (.aload_n 0, 1) := by decide +kernel
theorem dX8_tells_58 : decode cX8_tells 58 = .ok (.iload 7, 2) := by decide +kernel
theorem dX8_tells_60 : decode cX8_tells 60 = .ok (.iload 8, 2) := by decide +kernel
theorem dX8_tells_62 : decode cX8_tells 62 = .ok (.aload_n 3, 1) := by decide +kernel
theorem dX8_tells_63 : decode cX8_tells 63 = .ok (.aload 4, 2) := by decide +kernel
theorem dX8_tells_65 : decode cX8_tells 65 = .ok (.invokevirtual 26, 3) := by decide +kernel
theorem dX8_tells_68 : decode cX8_tells 68 = .ok (.ifCond .eq 15, 3) := by decide +kernel
theorem dX8_tells_71 : decode cX8_tells 71 = .ok (.aload_n 0, 1) := by decide +kernel
theorem dX8_tells_72 : decode cX8_tells 72 = .ok (.iload 6, 2) := by decide +kernel
theorem dX8_tells_74 : decode cX8_tells 74 = .ok (.iload 7, 2) := by decide +kernel
theorem dX8_tells_76 : decode cX8_tells 76 = .ok (.aload_n 3, 1) := by decide +kernel
theorem dX8_tells_77 : decode cX8_tells 77 = .ok (.aload 4, 2) := by decide +kernel
theorem dX8_tells_79 : decode cX8_tells 79 = .ok (.invokevirtual 26, 3) := by decide +kernel
theorem dX8_tells_82 : decode cX8_tells 82 = .ok (.ireturn, 1) := by decide +kernel
theorem dX8_tells_83 : decode cX8_tells 83 = .ok (.iinc 5 1, 3) := by decide +kernel
theorem dX8_tells_86 : decode cX8_tells 86 = .ok (.goto (-83), 3) := by decide +kernel
theorem dX8_tells_89 : decode cX8_tells 89 = .ok (.iload_n 2, 1) := by decide +kernel
theorem dX8_tells_90 : decode cX8_tells 90 = .ok (.ireturn, 1) := by decide +kernel
theorem dX8_run_0 : decode cX8_run 0 = .ok (.iconst 0, 1) := by decide +kernel
theorem dX8_run_1 : decode cX8_run 1 = .ok (.istore 5, 2) := by decide +kernel
theorem dX8_run_3 : decode cX8_run 3 = .ok (.iload_n 1, 1) := by decide +kernel
theorem dX8_run_4 : decode cX8_run 4 = .ok (.iconst 0, 1) := by decide +kernel
theorem dX8_run_5 : decode cX8_run 5 = .ok (.invokestatic 30, 3) := by decide +kernel
theorem dX8_run_8 : decode cX8_run 8 = .ok (.istore 6, 2) := by decide +kernel
theorem dX8_run_10 : decode cX8_run 10 = .ok (.iload 6, 2) := by decide +kernel
theorem dX8_run_12 : decode cX8_run 12 = .ok (.iload_n 2, 1) := by decide +kernel
theorem dX8_run_13 : decode cX8_run 13 = .ok (.if_icmp .ge 189, 3) := by decide +kernel
theorem dX8_run_16 : decode cX8_run 16 = .ok (.iload 6, 2) := by decide +kernel
theorem dX8_run_18 : decode cX8_run 18 = .ok (.aload_n 0, 1) := by decide +kernel
theorem dX8_run_19 : decode cX8_run 19 = .ok (.getfield 19, 3) := by decide +kernel
theorem dX8_run_22 : decode cX8_run 22 = .ok (.arraylength, 1) := by decide +kernel
theorem dX8_run_23 : decode cX8_run 23 = .ok (.if_icmp .ge 179, 3) := by decide +kernel
theorem dX8_run_26 : decode cX8_run 26 = .ok (.aload_n 0, 1) := by decide +kernel
theorem dX8_run_27 : decode cX8_run 27 = .ok (.getfield 19, 3) := by decide +kernel
theorem dX8_run_30 : decode cX8_run 30 = .ok (.iload 6, 2) := by decide +kernel
theorem dX8_run_32 : decode cX8_run 32 = .ok (.iaload, 1) := by decide +kernel
theorem dX8_run_33 : decode cX8_run 33 = .ok (.bipush 15, 2) := by decide +kernel
theorem dX8_run_35 : decode cX8_run 35 = .ok (.iand, 1) := by decide +kernel
theorem dX8_run_36 : decode cX8_run 36 = .ok (.istore 7, 2) := by decide +kernel
theorem dX8_run_38 : decode cX8_run 38 = .ok (.aload_n 0, 1) := by decide +kernel
theorem dX8_run_39 : decode cX8_run 39 = .ok (.getfield 19, 3) := by decide +kernel
theorem dX8_run_42 : decode cX8_run 42 = .ok (.iload 6, 2) := by decide +kernel
theorem dX8_run_44 : decode cX8_run 44 = .ok (.iaload, 1) := by decide +kernel
theorem dX8_run_45 : decode cX8_run 45 = .ok (.iconst 4, 1) := by decide +kernel
theorem dX8_run_46 : decode cX8_run 46 = .ok (.ishr, 1) := by decide +kernel
theorem dX8_run_47 : decode cX8_run 47 = .ok (.istore 8, 2) := by decide +kernel

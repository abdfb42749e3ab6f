theorem dX8_run_49 : decode cX8_run 49 = .ok (.iload 7, 2) := by decide +kernel
theorem dX8_run_51 : decode cX8_run 51 = .ok (.ifCond .eq 9, 3) := by decide +kernel
theorem dX8_run_54 : decode cX8_run 54 = .ok (.iload 7, 2) := by decide +kernel
theorem dX8_run_56 : decode cX8_run 56 = .ok (.iconst 1, 1) := by decide +kernel
theorem dX8_run_57 : decode cX8_run 57 = .ok (.if_icmp .ne 49, 3) := by decide +kernel
theorem dX8_run_60 : decode cX8_run 60 = .ok (.iload 5, 2) := by decide +kernel
theorem dX8_run_62 : decode cX8_run 62 = .ok (.aload 4, 2) := by decide +kernel
theorem dX8_run_64 : decode cX8_run 64 = .ok (.arraylength, 1) := by decide +kernel
theorem dX8_run_65 : decode cX8_run 65 = .ok (.if_icmp .ge 131, 3) := by decide +kernel
theorem dX8_run_68 : decode cX8_run 68 = .ok (.iload 8, 2) := by decide +kernel
theorem dX8_run_70 : decode cX8_run 70 = .ok (.ifCond .lt 126, 3) := by decide +kernel
theorem dX8_run_73 : decode cX8_run 73 = .ok (.aload 4, 2) := by decide +kernel
theorem dX8_run_75 : decode cX8_run 75 = .ok (.iload 5, 2) := by decide +kernel
theorem dX8_run_77 : decode cX8_run 77 = .ok (.iload 7, 2) := by decide +kernel
theorem dX8_run_79 : decode cX8_run 79 = .ok (.iconst 1, 1) := by decide +kernel
theorem dX8_run_80 : decode cX8_run 80 = .ok (.if_icmp .ne 17, 3) := by decide +kernel
theorem dX8_run_83 : decode cX8_run 83 = .ok (.iload 8, 2) := by decide +kernel
theorem dX8_run_85 : decode cX8_run 85 = .ok (.aload_n 3, 1) := by decide +kernel
theorem dX8_run_86 : decode cX8_run 86 = .ok (.arraylength, 1) := by decide +kernel
theorem dX8_run_87 : decode cX8_run 87 = .ok (.if_icmp .ge 10, 3) := by decide +kernel
theorem dX8_run_90 : decode cX8_run 90 = .ok (.aload_n 3, 1) := by decide +kernel
theorem dX8_run_91 : decode cX8_run 91 = .ok (.iload 8, 2) := by decide +kernel
theorem dX8_run_93 : decode cX8_run 93 = .ok (.iaload, 1) := by decide +kernel
theorem dX8_run_94 : decode cX8_run 94 = .ok (.goto 5, 3) := by decide +kernel
theorem dX8_run_97 : decode cX8_run 97 = .ok (.iload 8, 2) := by decide +kernel
theorem dX8_run_99 : decode cX8_run 99 = .ok (.iastore, 1) := by decide +kernel
theorem dX8_run_100 : decode cX8_run 100 = .ok (.iinc 5 1, 3) := by decide +kernel
theorem dX8_run_103 : decode cX8_run 103 = .ok (.goto 93, 3) := by decide +kernel
theorem dX8_run_106 : decode cX8_run 106 = .ok (.iload 7, 2) := by decide +kernel
theorem dX8_run_108 : decode cX8_run 108 = .ok (.iconst 2, 1) := by decide +kernel
theorem dX8_run_109 : decode cX8_run 109 = .ok (.if_icmp .eq 9, 3) := by decide +kernel
theorem dX8_run_112 : decode cX8_run 112 = .ok (.iload 7, 2) := by decide +kernel
theorem dX8_run_114 : decode cX8_run 114 = .ok (.iconst 3, 1) := by decide +kernel
theorem dX8_run_115 : decode cX8_run 115 = .ok (.if_icmp .ne 48, 3) := by decide +kernel
theorem dX8_run_118 : decode cX8_run 118 = .ok (.iload 5, 2) := by decide +kernel
theorem dX8_run_120 : decode cX8_run 120 = .ok (.ifCond .le 76, 3) := by decide +kernel
theorem dX8_run_123 : decode cX8_run 123 = .ok (.aload 4, 2) := by decide +kernel
theorem dX8_run_125 : decode cX8_run 125 = .ok (.iload 5, 2) := by decide +kernel
theorem dX8_run_127 : decode cX8_run 127 = .ok (.iconst 1, 1) := by decide +kernel
theorem dX8_run_128 : decode cX8_run 128 = .ok (.isub, 1) := by decide +kernel
theorem dX8_run_129 : decode cX8_run 129 = .ok (.iload 7, 2) := by decide +kernel
theorem dX8_run_131 : decode cX8_run 131 = .ok (.iconst 3, 1) := by decide +kernel
theorem dX8_run_132 : decode cX8_run 132 = .ok (.if_icmp .ne 15, 3) := by decide +kernel
theorem dX8_run_135 : decode cX8_run 135 = .ok (.iconst 1, 1) := by decide +kernel
theorem dX8_run_136 : decode cX8_run 136 = .ok (.aload 4, 2) := by decide +kernel
theorem dX8_run_138 : decode cX8_run 138 = .ok (.iload 5, 2) := by decide +kernel
theorem dX8_run_140 : decode cX8_run 140 = .ok (.iconst 1, 1) := by decide +kernel
theorem dX8_run_141 : decode cX8_run 141 = .ok (.isub, 1) := by decide +kernel
theorem dX8_run_142 : decode cX8_run 142 = .ok (.iaload, 1) := by decide +kernel
theorem dX8_run_143 : decode cX8_run 143 = .ok (.isub, 1) := by decide +kernel
theorem dX8_run_144 : decode cX8_run 144 = .ok (.goto 15, 3) := by decide +kernel
theorem dX8_run_147 : decode cX8_run 147 = .ok (.aload 4, 2) := by decide +kernel
theorem dX8_run_149 : decode cX8_run 149 = .ok (.iload 5, 2) := by decide +kernel
theorem dX8_run_151 : decode cX8_run 151 = .ok (.iconst 1, 1) := by decide +kernel
theorem dX8_run_152 : decode cX8_run 152 = .ok (.isub, 1) := by decide +kernel
theorem dX8_run_153 : decode cX8_run 153 = .ok (.iaload, 1) := by decide +kernel
theorem dX8_run_154 : decode cX8_run 154 = .ok (.iload 8, 2) := by decide +kernel
theorem dX8_run_156 : decode cX8_run 156 = .ok (.invokestatic 35, 3) := by decide +kernel
theorem dX8_run_159 : decode cX8_run 159 = .ok (.iastore, 1) := by decide +kernel
theorem dX8_run_160 : decode cX8_run 160 = .ok (.goto 36, 3) := by decide +kernel
theorem dX8_run_163 : decode cX8_run 163 = .ok (.iload 5, 2) := by decide +kernel
theorem dX8_run_165 : decode cX8_run 165 = .ok (.iconst 1, 1) := by decide +kernel
theorem dX8_run_166 : decode cX8_run 166 = .ok (.if_icmp .le 30, 3) := by decide +kernel
theorem dX8_run_169 : decode cX8_run 169 = .ok (.iinc 5 (-1), 3) := by decide +kernel
theorem dX8_run_172 : decode cX8_run 172 = .ok (.aload 4, 2) := by decide +kernel
theorem dX8_run_174 : decode cX8_run 174 = .ok (.iload 5, 2) := by decide +kernel
theorem dX8_run_176 : decode cX8_run 176 = .ok (.iconst 1, 1) := by decide +kernel
theorem dX8_run_177 : decode cX8_run 177 = .ok (.isub, 1) := by decide +kernel
theorem dX8_run_178 : decode cX8_run 178 = .ok (.iload 7, 2) := by decide +kernel
theorem dX8_run_180 : decode cX8_run 180 = .ok (.aload 4, 2) := by decide +kernel
theorem dX8_run_182 : decode cX8_run 182 = .ok (.iload 5, 2) := by decide +kernel
theorem dX8_run_184 : decode cX8_run 184 = .ok (.iconst 1, 1) := by decide +kernel
theorem dX8_run_185 : decode cX8_run 185 = .ok (.isub, 1) := by decide +kernel
theorem dX8_run_186 : decode cX8_run 186 = .ok (.iaload, 1) := by decide +kernel
theorem dX8_run_187 : decode cX8_run 187 = .ok (.aload 4, 2) := by decide +kernel
theorem dX8_run_189 : decode cX8_run 189 = .ok (.iload 5, 2) := by decide +kernel
theorem dX8_run_191 : decode cX8_run 191 = .ok (.iaload, 1) := by decide +kernel
theorem dX8_run_192 : decode cX8_run 192 = .ok (.invokestatic 38, 3) := by decide +kernel
theorem dX8_run_195 : decode cX8_run 195 = .ok (.iastore, 1) := by decide +kernel
theorem dX8_run_196 : decode cX8_run 196 = .ok (.iinc 6 1, 3) := by decide +kernel
theorem dX8_run_199 : decode cX8_run 199 = .ok (.goto (-189), 3) := by decide +kernel
theorem dX8_run_202 : decode cX8_run 202 = .ok (.iload 5, 2) := by decide +kernel
theorem dX8_run_204 : decode cX8_run 204 = .ok (.ifCond .le 10, 3) := by decide +kernel
theorem dX8_run_207 : decode cX8_run 207 = .ok (.aload 4, 2) := by decide +kernel
theorem dX8_run_209 : decode cX8_run 209 = .ok (.iconst 0, 1) := by decide +kernel
theorem dX8_run_210 : decode cX8_run 210 = .ok (.iaload, 1) := by decide +kernel
theorem dX8_run_211 : decode cX8_run 211 = .ok (.goto 4, 3) := by decide +kernel
theorem dX8_run_214 : decode cX8_run 214 = .ok (.iconst 0, 1) := by decide +kernel
theorem dX8_run_215 : decode cX8_run 215 = .ok (.ireturn, 1) := by decide +kernel
theorem dX8_part_0 : decode cX8_part 0 = .ok (.iload_n 1, 1) := by decide +kernel
theorem dX8_part_1 : decode cX8_part 1 = .ok (.ifCond .ne 7, 3) := by decide +kernel
theorem dX8_part_4 : decode cX8_part 4 = .ok (.iconst 0, 1) := by decide +kernel
theorem dX8_part_5 : decode cX8_part 5 = .ok (.goto 6, 3) := by decide +kernel
theorem dX8_part_8 : decode cX8_part 8 = .ok (.iload_n 0, 1) := by decide +kernel
theorem dX8_part_9 : decode cX8_part 9 = .ok (.iload_n 1, 1) := by decide +kernel
theorem dX8_part_10 : decode cX8_part 10 = .ok (.idiv, 1) := by decide +kernel
theorem dX8_part_11 : decode cX8_part 11 = .ok (.ireturn, 1) := by decide +kernel
theorem dX8_join_0 : decode cX8_join 0 = .ok (.iload_n 0, 1) := by decide +kernel
theorem dX8_join_1 : decode cX8_join 1 = .ok (.tableswitch 92 4 10 #[43, 47, 51, 55, 66, 77, 88], 43) := by decide +kernel
theorem dX8_join_44 : decode cX8_join 44 = .ok (.iload_n 1, 1) := by decide +kernel
theorem dX8_join_45 : decode cX8_join 45 = .ok (.iload_n 2, 1) := by decide +kernel
theorem dX8_join_46 : decode cX8_join 46 = .ok (.iadd, 1) := by decide +kernel
theorem dX8_join_47 : decode cX8_join 47 = .ok (.ireturn, 1) := by decide +kernel
theorem dX8_join_48 : decode cX8_join 48 = .ok (.iload_n 1, 1) := by decide +kernel
theorem dX8_join_49 : decode cX8_join 49 = .ok (.iload_n 2, 1) := by decide +kernel
theorem dX8_join_50 : decode cX8_join 50 = .ok (.isub, 1) := by decide +kernel
theorem dX8_join_51 : decode cX8_join 51 = .ok (.ireturn, 1) := by decide +kernel
theorem dX8_join_52 : decode cX8_join 52 = .ok (.iload_n 1, 1) := by decide +kernel
theorem dX8_join_53 : decode cX8_join 53 = .ok (.iload_n 2, 1) := by decide +kernel
theorem dX8_join_54 : decode cX8_join 54 = .ok (.imul, 1) := by decide +kernel
theorem dX8_join_55 : decode cX8_join 55 = .ok (.ireturn, 1) := by decide +kernel
theorem dX8_join_56 : decode cX8_join 56 = .ok (.iload_n 1, 1) := by decide +kernel
theorem dX8_join_57 : decode cX8_join 57 = .ok (.iload_n 2, 1) := by decide +kernel
theorem dX8_join_58 : decode cX8_join 58 = .ok (.if_icmp .ge 7, 3) := by decide +kernel
theorem dX8_join_61 : decode cX8_join 61 = .ok (.iconst 1, 1) := by decide +kernel
theorem dX8_join_62 : decode cX8_join 62 = .ok (.goto 4, 3) := by decide +kernel
theorem dX8_join_65 : decode cX8_join 65 = .ok (.iconst 0, 1) := by decide +kernel
theorem dX8_join_66 : decode cX8_join 66 = .ok (.ireturn, 1) := by decide +kernel
theorem dX8_join_67 : decode cX8_join 67 = .ok (.iload_n 1, 1) := by decide +kernel
theorem dX8_join_68 : decode cX8_join 68 = .ok (.iload_n 2, 1) := by decide +kernel
theorem dX8_join_69 : decode cX8_join 69 = .ok (.if_icmp .ne 7, 3) := by decide +kernel
theorem dX8_join_72 : decode cX8_join 72 = .ok (.iconst 1, 1) := by decide +kernel
theorem dX8_join_73 : decode cX8_join 73 = .ok (.goto 4, 3) := by decide +kernel
theorem dX8_join_76 : decode cX8_join 76 = .ok (.iconst 0, 1) := by decide +kernel
theorem dX8_join_77 : decode cX8_join 77 = .ok (.ireturn, 1) := by decide +kernel
theorem dX8_join_78 : decode cX8_join 78 = .ok (.iload_n 1, 1) := by decide +kernel
theorem dX8_join_79 : decode cX8_join 79 = .ok (.iload_n 2, 1) := by decide +kernel
theorem dX8_join_80 : decode cX8_join 80 = .ok (.if_icmp .le 7, 3) := by decide +kernel
theorem dX8_join_83 : decode cX8_join 83 = .ok (.iconst 1, 1) := by decide +kernel
theorem dX8_join_84 : decode cX8_join 84 = .ok (.goto 4, 3) := by decide +kernel
theorem dX8_join_87 : decode cX8_join 87 = .ok (.iconst 0, 1) := by decide +kernel
theorem dX8_join_88 : decode cX8_join 88 = .ok (.ireturn, 1) := by decide +kernel
theorem dX8_join_89 : decode cX8_join 89 = .ok (.iload_n 1, 1) := by decide +kernel
theorem dX8_join_90 : decode cX8_join 90 = .ok (.iload_n 2, 1) := by decide +kernel
theorem dX8_join_91 : decode cX8_join 91 = .ok (.iand, 1) := by decide +kernel
theorem dX8_join_92 : decode cX8_join 92 = .ok (.ireturn, 1) := by decide +kernel
theorem dX8_join_93 : decode cX8_join 93 = .ok (.iload_n 1, 1) := by decide +kernel
theorem dX8_join_94 : decode cX8_join 94 = .ok (.iload_n 2, 1) := by decide +kernel
theorem dX8_join_95 : decode cX8_join 95 = .ok (.ior, 1) := by decide +kernel
theorem dX8_join_96 : decode cX8_join 96 = .ok (.ireturn, 1) := by decide +kernel
theorem dX9_init_0 : decode cX9_init 0 = .ok (.aload_n 0, 1) := by decide +kernel
theorem dX9_init_1 : decode cX9_init 1 = .ok (.invokespecial 3, 3) := by decide +kernel
theorem dX9_init_4 : decode cX9_init 4 = .ok (.aload_n 0, 1) := by decide +kernel
theorem dX9_init_5 : decode cX9_init 5 = .ok (.iconst 0, 1) := by decide +kernel
theorem dX9_init_6 : decode cX9_init 6 = .ok (.putfield 9, 3) := by decide +kernel
theorem dX9_init_9 : decode cX9_init 9 = .ok (.aload_n 0, 1) := by decide +kernel
theorem dX9_init_10 : decode cX9_init 10 = .ok (.iload_n 1, 1) := by decide +kernel
theorem dX9_init_11 : decode cX9_init 11 = .ok (.iconst 0, 1) := by decide +kernel
theorem dX9_init_12 : decode cX9_init 12 = .ok (.invokestatic 15, 3) := by decide +kernel
theorem dX9_init_15 : decode cX9_init 15 = .ok (.newarray .int, 2) := by decide +kernel
theorem dX9_init_17 : decode cX9_init 17 = .ok (.putfield 21, 3) := by decide +kernel
theorem dX9_init_20 : decode cX9_init 20 = .ok (.return_, 1) := by decide +kernel
theorem dX9_add_0 : decode cX9_add 0 = .ok (.aload_n 0, 1) := by decide +kernel
theorem dX9_add_1 : decode cX9_add 1 = .ok (.getfield 9, 3) := by decide +kernel
theorem dX9_add_4 : decode cX9_add 4 = .ok (.ifCond .lt 15, 3) := by decide +kernel
theorem dX9_add_7 : decode cX9_add 7 = .ok (.aload_n 0, 1) := by decide +kernel
theorem dX9_add_8 : decode cX9_add 8 = .ok (.getfield 9, 3) := by decide +kernel
theorem dX9_add_11 : decode cX9_add 11 = .ok (.aload_n 0, 1) := by decide +kernel
theorem dX9_add_12 : decode cX9_add 12 = .ok (.getfield 21, 3) := by decide +kernel
theorem dX9_add_15 : decode cX9_add 15 = .ok (.arraylength, 1) := by decide +kernel
theorem dX9_add_16 : decode cX9_add 16 = .ok (.if_icmp .lt 5, 3) := by decide +kernel
theorem dX9_add_19 : decode cX9_add 19 = .ok (.iconst (-1), 1) := by decide +kernel
theorem dX9_add_20 : decode cX9_add 20 = .ok (.ireturn, 1) := by decide +kernel
theorem dX9_add_21 : decode cX9_add 21 = .ok (.aload_n 0, 1) := by decide +kernel
theorem dX9_add_22 : decode cX9_add 22 = .ok (.getfield 21, 3) := by decide +kernel
theorem dX9_add_25 : decode cX9_add 25 = .ok (.aload_n 0, 1) := by decide +kernel
theorem dX9_add_26 : decode cX9_add 26 = .ok (.getfield 9, 3) := by decide +kernel
theorem dX9_add_29 : decode cX9_add 29 = .ok (.iload_n 1, 1) := by decide +kernel
theorem dX9_add_30 : decode cX9_add 30 = .ok (.iastore, 1) := by decide +kernel
theorem dX9_add_31 : decode cX9_add 31 = .ok (.aload_n 0, 1) := by decide +kernel
theorem dX9_add_32 : decode cX9_add 32 = .ok (.dup, 1) := by decide +kernel
theorem dX9_add_33 : decode cX9_add 33 = .ok (.getfield 9, 3) := by decide +kernel
theorem dX9_add_36 : decode cX9_add 36 = .ok (.iconst 1, 1) := by decide +kernel
theorem dX9_add_37 : decode cX9_add 37 = .ok (.iadd, 1) := by decide +kernel
theorem dX9_add_38 : decode cX9_add 38 = .ok (.putfield 9, 3) := by decide +kernel
theorem dX9_add_41 : decode cX9_add 41 = .ok (.aload_n 0, 1) := by decide +kernel
theorem dX9_add_42 : decode cX9_add 42 = .ok (.getfield 9, 3) := by decide +kernel
theorem dX9_add_45 : decode cX9_add 45 = .ok (.ireturn, 1) := by decide +kernel
theorem dX9_item_0 : decode cX9_item 0 = .ok (.iload_n 1, 1) := by decide +kernel
theorem dX9_item_1 : decode cX9_item 1 = .ok (.ifCond .lt 29, 3) := by decide +kernel
theorem dX9_item_4 : decode cX9_item 4 = .ok (.iload_n 1, 1) := by decide +kernel
theorem dX9_item_5 : decode cX9_item 5 = .ok (.aload_n 0, 1) := by decide +kernel
theorem dX9_item_6 : decode cX9_item 6 = .ok (.getfield 9, 3) := by decide +kernel
theorem dX9_item_9 : decode cX9_item 9 = .ok (.if_icmp .ge 21, 3) := by decide +kernel
theorem dX9_item_12 : decode cX9_item 12 = .ok (.iload_n 1, 1) := by decide +kernel
theorem dX9_item_13 : decode cX9_item 13 = .ok (.aload_n 0, 1) := by decide +kernel
theorem dX9_item_14 : decode cX9_item 14 = .ok (.getfield 21, 3) := by decide +kernel
theorem dX9_item_17 : decode cX9_item 17 = .ok (.arraylength, 1) := by decide +kernel
theorem dX9_item_18 : decode cX9_item 18 = .ok (.if_icmp .ge 12, 3) := by decide +kernel
theorem dX9_item_21 : decode cX9_item 21 = .ok (.aload_n 0, 1) := by decide +kernel
theorem dX9_item_22 : decode cX9_item 22 = .ok (.getfield 21, 3) := by decide +kernel
theorem dX9_item_25 : decode cX9_item 25 = .ok (.iload_n 1, 1) := by decide +kernel
theorem dX9_item_26 : decode cX9_item 26 = .ok (.iaload, 1) := by decide +kernel
theorem dX9_item_27 : decode cX9_item 27 = .ok (.goto 4, 3) := by decide +kernel
theorem dX9_item_30 : decode cX9_item 30 = .ok (.iconst 0, 1) := by decide +kernel
theorem dX9_item_31 : decode cX9_item 31 = .ok (.ireturn, 1) := by decide +kernel
theorem dX9_takeList_0 : decode cX9_takeList 0 = .ok (.aload_n 0, 1) := by decide +kernel
theorem dX9_takeList_1 : decode cX9_takeList 1 = .ok (.aload_n 1, 1) := by decide +kernel
theorem dX9_takeList_2 : decode cX9_takeList 2 = .ok (.getfield 9, 3) := by decide +kernel
theorem dX9_takeList_5 : decode cX9_takeList 5 = .ok (.aload_n 0, 1) := by decide +kernel
theorem dX9_takeList_6 : decode cX9_takeList 6 = .ok (.getfield 21, 3) := by decide +kernel
theorem dX9_takeList_9 : decode cX9_takeList 9 = .ok (.arraylength, 1) := by decide +kernel
theorem dX9_takeList_10 : decode cX9_takeList 10 = .ok (.invokestatic 25, 3) := by decide +kernel
theorem dX9_takeList_13 : decode cX9_takeList 13 = .ok (.putfield 9, 3) := by decide +kernel
theorem dX9_takeList_16 : decode cX9_takeList 16 = .ok (.iconst 0, 1) := by decide +kernel
theorem dX9_takeList_17 : decode cX9_takeList 17 = .ok (.istore_n 2, 1) := by decide +kernel
theorem dX9_takeList_18 : decode cX9_takeList 18 = .ok (.iload_n 2, 1) := by decide +kernel
theorem dX9_takeList_19 : decode cX9_takeList 19 = .ok (.aload_n 0, 1) := by decide +kernel
theorem dX9_takeList_20 : decode cX9_takeList 20 = .ok (.getfield 9, 3) := by decide +kernel
theorem dX9_takeList_23 : decode cX9_takeList 23 = .ok (.if_icmp .ge 20, 3) := by decide +kernel
theorem dX9_takeList_26 : decode cX9_takeList 26 = .ok (.aload_n 0, 1) := by decide +kernel
theorem dX9_takeList_27 : decode cX9_takeList 27 = .ok (.getfield 21, 3) := by decide +kernel
theorem dX9_takeList_30 : decode cX9_takeList 30 = .ok (.iload_n 2, 1) := by decide +kernel
theorem dX9_takeList_31 : decode cX9_takeList 31 = .ok (.aload_n 1, 1) := by decide +kernel
theorem dX9_takeList_32 : decode cX9_takeList 32 = .ok (.iload_n 2, 1) := by decide +kernel
theorem dX9_takeList_33 : decode cX9_takeList 33 = .ok (.invokevirtual 28, 3) := by decide +kernel
theorem dX9_takeList_36 : decode cX9_takeList 36 = .ok (.iastore, 1) := by decide +kernel
theorem dX9_takeList_37 : decode cX9_takeList 37 = .ok (.iinc 2 1, 3) := by decide +kernel
theorem dX9_takeList_40 : decode cX9_takeList 40 = .ok (.goto (-22), 3) := by decide +kernel
theorem dX9_takeList_43 : decode cX9_takeList 43 = .ok (.return_, 1) := by decide +kernel
theorem dX10_init_0 : decode cX10_init 0 = .ok (.aload_n 0, 1) := by decide +kernel
theorem dX10_init_1 : decode cX10_init 1 = .ok (.invokespecial 3, 3) := by decide +kernel
theorem dX10_init_4 : decode cX10_init 4 = .ok (.aload_n 0, 1) := by decide +kernel
theorem dX10_init_5 : decode cX10_init 5 = .ok (.new 9, 3) := by decide +kernel
theorem dX10_init_8 : decode cX10_init 8 = .ok (.dup, 1) := by decide +kernel
theorem dX10_init_9 : decode cX10_init 9 = .ok (.invokespecial 11, 3) := by decide +kernel
theorem dX10_init_12 : decode cX10_init 12 = .ok (.putfield 12, 3) := by decide +kernel
theorem dX10_init_15 : decode cX10_init 15 = .ok (.aload_n 0, 1) := by decide +kernel
theorem dX10_init_16 : decode cX10_init 16 = .ok (.new 18, 3) := by decide +kernel
theorem dX10_init_19 : decode cX10_init 19 = .ok (.dup, 1) := by decide +kernel
theorem dX10_init_20 : decode cX10_init 20 = .ok (.invokespecial 20, 3) := by decide +kernel
theorem dX10_init_23 : decode cX10_init 23 = .ok (.putfield 21, 3) := by decide +kernel
theorem dX10_init_26 : decode cX10_init 26 = .ok (.aload_n 0, 1) := by decide +kernel
theorem dX10_init_27 : decode cX10_init 27 = .ok (.iconst 4, 1) := by decide +kernel
theorem dX10_init_28 : decode cX10_init 28 = .ok (.anewarray 25, 3) := by decide +kernel
theorem dX10_init_31 : decode cX10_init 31 = .ok (.putfield 27, 3) := by decide +kernel
theorem dX10_init_34 : decode cX10_init 34 = .ok (.aload_n 0, 1) := by decide +kernel
theorem dX10_init_35 : decode cX10_init 35 = .ok (.bipush 9, 2) := by decide +kernel
theorem dX10_init_37 : decode cX10_init 37 = .ok (.anewarray 31, 3) := by decide +kernel
theorem dX10_init_40 : decode cX10_init 40 = .ok (.putfield 33, 3) := by decide +kernel
theorem dX10_init_43 : decode cX10_init 43 = .ok (.new 25, 3) := by decide +kernel
theorem dX10_init_46 : decode cX10_init 46 = .ok (.dup, 1) := by decide +kernel
theorem dX10_init_47 : decode cX10_init 47 = .ok (.iconst 0, 1) := by decide +kernel
theorem dX10_init_48 : decode cX10_init 48 = .ok (.newarray .int, 2) := by decide +kernel
theorem dX10_init_50 : decode cX10_init 50 = .ok (.iconst 0, 1) := by decide +kernel
theorem dX10_init_51 : decode cX10_init 51 = .ok (.iconst 0, 1) := by decide +kernel
theorem dX10_init_52 : decode cX10_init 52 = .ok (.newarray .int, 2) := by decide +kernel
theorem dX10_init_54 : decode cX10_init 54 = .ok (.invokespecial 37, 3) := by decide +kernel
theorem dX10_init_57 : decode cX10_init 57 = .ok (.astore_n 1, 1) := by decide +kernel
theorem dX10_init_58 : decode cX10_init 58 = .ok (.iconst 0, 1) := by decide +kernel
theorem dX10_init_59 : decode cX10_init 59 = .ok (.istore_n 2, 1) := by decide +kernel
theorem dX10_init_60 : decode cX10_init 60 = .ok (.iload_n 2, 1) := by decide +kernel
theorem dX10_init_61 : decode cX10_init 61 = .ok (.iconst 4, 1) := by decide +kernel
theorem dX10_init_62 : decode cX10_init 62 = .ok (.if_icmp .ge 16, 3) := by decide +kernel
theorem dX10_init_65 : decode cX10_init 65 = .ok (.aload_n 0, 1) := by decide +kernel
theorem dX10_init_66 : decode cX10_init 66 = .ok (.getfield 27, 3) := by decide +kernel
theorem dX10_init_69 : decode cX10_init 69 = .ok (.iload_n 2, 1) := by decide +kernel
theorem dX10_init_70 : decode cX10_init 70 = .ok (.aload_n 1, 1) := by decide +kernel
theorem dX10_init_71 : decode cX10_init 71 = .ok (.aastore, 1) := by decide +kernel
theorem dX10_init_72 : decode cX10_init 72 = .ok (.iinc 2 1, 3) := by decide +kernel
theorem dX10_init_75 : decode cX10_init 75 = .ok (.goto (-15), 3) := by decide +kernel
theorem dX10_init_78 : decode cX10_init 78 = .ok (.iconst 0, 1) := by decide +kernel
theorem dX10_init_79 : decode cX10_init 79 = .ok (.istore_n 2, 1) := by decide +kernel
theorem dX10_init_80 : decode cX10_init 80 = .ok (.iload_n 2, 1) := by decide +kernel
theorem dX10_init_81 : decode cX10_init 81 = .ok (.bipush 9, 2) := by decide +kernel
theorem dX10_init_83 : decode cX10_init 83 = .ok (.if_icmp .ge 27, 3) := by decide +kernel
theorem dX10_init_86 : decode cX10_init 86 = .ok (.aload_n 0, 1) := by decide +kernel
theorem dX10_init_87 : decode cX10_init 87 = .ok (.getfield 33, 3) := by decide +kernel
theorem dX10_init_90 : decode cX10_init 90 = .ok (.iload_n 2, 1) := by decide +kernel
theorem dX10_init_91 : decode cX10_init 91 = .ok (.new 31, 3) := by decide +kernel
theorem dX10_init_94 : decode cX10_init 94 = .ok (.dup, 1) := by decide +kernel
theorem dX10_init_95 : decode cX10_init 95 = .ok (.getstatic 40, 3) := by decide +kernel
theorem dX10_init_98 : decode cX10_init 98 = .ok (.iload_n 2, 1) := by decide +kernel
theorem dX10_init_99 : decode cX10_init 99 = .ok (.iaload, 1) := by decide +kernel
theorem dX10_init_100 : decode cX10_init 100 = .ok (.invokespecial 44, 3) := by decide +kernel
theorem dX10_init_103 : decode cX10_init 103 = .ok (.aastore, 1) := by decide +kernel
theorem dX10_init_104 : decode cX10_init 104 = .ok (.iinc 2 1, 3) := by decide +kernel
theorem dX10_init_107 : decode cX10_init 107 = .ok (.goto (-27), 3) := by decide +kernel
theorem dX10_init_110 : decode cX10_init 110 = .ok (.return_, 1) := by decide +kernel
theorem dX10_takeAll_0 : decode cX10_takeAll 0 = .ok (.aload_n 0, 1) := by decide +kernel
theorem dX10_takeAll_1 : decode cX10_takeAll 1 = .ok (.getfield 12, 3) := by decide +kernel
theorem dX10_takeAll_4 : decode cX10_takeAll 4 = .ok (.aload_n 1, 1) := by decide +kernel
theorem dX10_takeAll_5 : decode cX10_takeAll 5 = .ok (.getfield 12, 3) := by decide +kernel
theorem dX10_takeAll_8 : decode cX10_takeAll 8 = .ok (.invokevirtual 47, 3) := by decide +kernel
theorem dX10_takeAll_11 : decode cX10_takeAll 11 = .ok (.aload_n 0, 1) := by decide +kernel
theorem dX10_takeAll_12 : decode cX10_takeAll 12 = .ok (.getfield 21, 3) := by decide +kernel
theorem dX10_takeAll_15 : decode cX10_takeAll 15 = .ok (.aload_n 1, 1) := by decide +kernel
theorem dX10_takeAll_16 : decode cX10_takeAll 16 = .ok (.getfield 21, 3) := by decide +kernel
theorem dX10_takeAll_19 : decode cX10_takeAll 19 = .ok (.invokevirtual 51, 3) := by decide +kernel
theorem dX10_takeAll_22 : decode cX10_takeAll 22 = .ok (.iconst 0, 1) := by decide +kernel
theorem dX10_takeAll_23 : decode cX10_takeAll 23 = .ok (.istore_n 2, 1) := by decide +kernel
theorem dX10_takeAll_24 : decode cX10_takeAll 24 = .ok (.iload_n 2, 1) := by decide +kernel
theorem dX10_takeAll_25 : decode cX10_takeAll 25 = .ok (.iconst 4, 1) := by decide +kernel
theorem dX10_takeAll_26 : decode cX10_takeAll 26 = .ok (.if_icmp .ge 21, 3) := by decide +kernel
theorem dX10_takeAll_29 : decode cX10_takeAll 29 = .ok (.aload_n 0, 1) := by decide +kernel
theorem dX10_takeAll_30 : decode cX10_takeAll 30 = .ok (.getfield 27, 3) := by decide +kernel
theorem dX10_takeAll_33 : decode cX10_takeAll 33 = .ok (.iload_n 2, 1) := by decide +kernel
theorem dX10_takeAll_34 : decode cX10_takeAll 34 = .ok (.aload_n 1, 1) := by decide +kernel
theorem dX10_takeAll_35 : decode cX10_takeAll 35 = .ok (.getfield 27, 3) := by decide +kernel
theorem dX10_takeAll_38 : decode cX10_takeAll 38 = .ok (.iload_n 2, 1) := by decide +kernel
theorem dX10_takeAll_39 : decode cX10_takeAll 39 = .ok (.aaload, 1) := by decide +kernel
theorem dX10_takeAll_40 : decode cX10_takeAll 40 = .ok (.aastore, 1) := by decide +kernel
theorem dX10_takeAll_41 : decode cX10_takeAll 41 = .ok (.iinc 2 1, 3) := by decide +kernel
theorem dX10_takeAll_44 : decode cX10_takeAll 44 = .ok (.goto (-20), 3) := by decide +kernel
theorem dX10_takeAll_47 : decode cX10_takeAll 47 = .ok (.iconst 0, 1) := by decide +kernel
theorem dX10_takeAll_48 : decode cX10_takeAll 48 = .ok (.istore_n 2, 1) := by decide +kernel
theorem dX10_takeAll_49 : decode cX10_takeAll 49 = .ok (.iload_n 2, 1) := by decide +kernel
theorem dX10_takeAll_50 : decode cX10_takeAll 50 = .ok (.bipush 9, 2) := by decide +kernel
theorem dX10_takeAll_52 : decode cX10_takeAll 52 = .ok (.if_icmp .ge 24, 3) := by decide +kernel
theorem dX10_takeAll_55 : decode cX10_takeAll 55 = .ok (.aload_n 0, 1) := by decide +kernel
theorem dX10_takeAll_56 : decode cX10_takeAll 56 = .ok (.getfield 33, 3) := by decide +kernel
theorem dX10_takeAll_59 : decode cX10_takeAll 59 = .ok (.iload_n 2, 1) := by decide +kernel
theorem dX10_takeAll_60 : decode cX10_takeAll 60 = .ok (.aaload, 1) := by decide +kernel
theorem dX10_takeAll_61 : decode cX10_takeAll 61 = .ok (.aload_n 1, 1) := by decide +kernel
theorem dX10_takeAll_62 : decode cX10_takeAll 62 = .ok (.getfield 33, 3) := by decide +kernel
theorem dX10_takeAll_65 : decode cX10_takeAll 65 = .ok (.iload_n 2, 1) := by decide +kernel
theorem dX10_takeAll_66 : decode cX10_takeAll 66 = .ok (.aaload, 1) := by decide +kernel
theorem dX10_takeAll_67 : decode cX10_takeAll 67 = .ok (.invokevirtual 55, 3) := by decide +kernel
theorem dX10_takeAll_70 : decode cX10_takeAll 70 = .ok (.iinc 2 1, 3) := by decide +kernel
theorem dX10_takeAll_73 : decode cX10_takeAll 73 = .ok (.goto (-24), 3) := by decide +kernel
theorem dX10_takeAll_76 : decode cX10_takeAll 76 = .ok (.return_, 1) := by decide +kernel
theorem dX10_tell_0 : decode cX10_tell 0 = .ok (.iload_n 1, 1) := by decide +kernel
theorem dX10_tell_1 : decode cX10_tell 1 = .ok (.ifCond .lt 9, 3) := by decide +kernel
theorem dX10_tell_4 : decode cX10_tell 4 = .ok (.iload_n 1, 1) := by decide +kernel
theorem dX10_tell_5 : decode cX10_tell 5 = .ok (.bipush 9, 2) := by decide +kernel
theorem dX10_tell_7 : decode cX10_tell 7 = .ok (.if_icmp .lt 5, 3) := by decide +kernel
theorem dX10_tell_10 : decode cX10_tell 10 = .ok (.iconst (-1), 1) := by decide +kernel
theorem dX10_tell_11 : decode cX10_tell 11 = .ok (.ireturn, 1) := by decide +kernel
theorem dX10_tell_12 : decode cX10_tell 12 = .ok (.iload_n 2, 1) := by decide +kernel
theorem dX10_tell_13 : decode cX10_tell 13 = .ok (.ifCond .eq 15, 3) := by decide +kernel
theorem dX10_tell_16 : decode cX10_tell 16 = .ok (.aload_n 0, 1) := by decide +kernel
theorem dX10_tell_17 : decode cX10_tell 17 = .ok (.getfield 33, 3) := by decide +kernel
theorem dX10_tell_20 : decode cX10_tell 20 = .ok (.iload_n 1, 1) := by decide +kernel
theorem dX10_tell_21 : decode cX10_tell 21 = .ok (.aaload, 1) := by decide +kernel
theorem dX10_tell_22 : decode cX10_tell 22 = .ok (.iconst 0, 1) := by decide +kernel
theorem dX10_tell_23 : decode cX10_tell 23 = .ok (.putfield 59, 3) := by decide +kernel
theorem dX10_tell_26 : decode cX10_tell 26 = .ok (.iconst 0, 1) := by decide +kernel
theorem dX10_tell_27 : decode cX10_tell 27 = .ok (.ireturn, 1) := by decide +kernel
theorem dX10_tell_28 : decode cX10_tell 28 = .ok (.iload_n 3, 1) := by decide +kernel
theorem dX10_tell_29 : decode cX10_tell 29 = .ok (.ifCond .eq 17, 3) := by decide +kernel
theorem dX10_tell_32 : decode cX10_tell 32 = .ok (.aload_n 0, 1) := by decide +kernel
theorem dX10_tell_33 : decode cX10_tell 33 = .ok (.getfield 33, 3) := by decide +kernel
theorem dX10_tell_36 : decode cX10_tell 36 = .ok (.iload_n 1, 1) := by decide +kernel
theorem dX10_tell_37 : decode cX10_tell 37 = .ok (.aaload, 1) := by decide +kernel
theorem dX10_tell_38 : decode cX10_tell 38 = .ok (.iload 4, 2) := by decide +kernel
theorem dX10_tell_40 : decode cX10_tell 40 = .ok (.invokevirtual 63, 3) := by decide +kernel
theorem dX10_tell_43 : decode cX10_tell 43 = .ok (.goto 4, 3) := by decide +kernel
theorem dX10_tell_46 : decode cX10_tell 46 = .ok (.iconst (-1), 1) := by decide +kernel
theorem dX10_tell_47 : decode cX10_tell 47 = .ok (.ireturn, 1) := by decide +kernel
theorem dX10_linesOf_0 : decode cX10_linesOf 0 = .ok (.iload_n 1, 1) := by decide +kernel
theorem dX10_linesOf_1 : decode cX10_linesOf 1 = .ok (.ifCond .lt 20, 3) := by decide +kernel
theorem dX10_linesOf_4 : decode cX10_linesOf 4 = .ok (.iload_n 1, 1) := by decide +kernel
theorem dX10_linesOf_5 : decode cX10_linesOf 5 = .ok (.iconst 4, 1) := by decide +kernel
theorem dX10_linesOf_6 : decode cX10_linesOf 6 = .ok (.if_icmp .ge 15, 3) := by decide +kernel
theorem dX10_linesOf_9 : decode cX10_linesOf 9 = .ok (.aload_n 0, 1) := by decide +kernel
theorem dX10_linesOf_10 : decode cX10_linesOf 10 = .ok (.getfield 27, 3) := by decide +kernel
theorem dX10_linesOf_13 : decode cX10_linesOf 13 = .ok (.iload_n 1, 1) := by decide +kernel
theorem dX10_linesOf_14 : decode cX10_linesOf 14 = .ok (.aaload, 1) := by decide +kernel
theorem dX10_linesOf_15 : decode cX10_linesOf 15 = .ok (.getfield 67, 3) := by decide +kernel
theorem dX10_linesOf_18 : decode cX10_linesOf 18 = .ok (.goto 4, 3) := by decide +kernel
theorem dX10_linesOf_21 : decode cX10_linesOf 21 = .ok (.iconst 0, 1) := by decide +kernel
theorem dX10_linesOf_22 : decode cX10_linesOf 22 = .ok (.ireturn, 1) := by decide +kernel
theorem dX10_twinsOf_0 : decode cX10_twinsOf 0 = .ok (.aload_n 0, 1) := by decide +kernel
theorem dX10_twinsOf_1 : decode cX10_twinsOf 1 = .ok (.getfield 27, 3) := by decide +kernel
theorem dX10_twinsOf_4 : decode cX10_twinsOf 4 = .ok (.iconst 3, 1) := by decide +kernel
theorem dX10_twinsOf_5 : decode cX10_twinsOf 5 = .ok (.aaload, 1) := by decide +kernel
theorem dX10_twinsOf_6 : decode cX10_twinsOf 6 = .ok (.astore_n 2, 1) := by decide +kernel
theorem dX10_twinsOf_7 : decode cX10_twinsOf 7 = .ok (.iconst 0, 1) := by decide +kernel
theorem dX10_twinsOf_8 : decode cX10_twinsOf 8 = .ok (.istore_n 3, 1) := by decide +kernel
theorem dX10_twinsOf_9 : decode cX10_twinsOf 9 = .ok (.iconst 0, 1) := by decide +kernel
theorem dX10_twinsOf_10 : decode cX10_twinsOf 10 = .ok (.istore 4, 2) := by decide +kernel
theorem dX10_twinsOf_12 : decode cX10_twinsOf 12 = .ok (.iload 4, 2) := by decide +kernel
theorem dX10_twinsOf_14 : decode cX10_twinsOf 14 = .ok (.aload_n 2, 1) := by decide +kernel
theorem dX10_twinsOf_15 : decode cX10_twinsOf 15 = .ok (.getfield 67, 3) := by decide +kernel
theorem dX10_twinsOf_18 : decode cX10_twinsOf 18 = .ok (.if_icmp .ge 53, 3) := by decide +kernel
theorem dX10_twinsOf_21 : decode cX10_twinsOf 21 = .ok (.aload_n 2, 1) := by decide +kernel
theorem dX10_twinsOf_22 : decode cX10_twinsOf 22 = .ok (.iload 4, 2) := by decide +kernel
theorem dX10_twinsOf_24 : decode cX10_twinsOf 24 = .ok (.iconst 0, 1) := by decide +kernel
theorem dX10_twinsOf_25 : decode cX10_twinsOf 25 = .ok (.invokevirtual 70, 3) := by decide +kernel
theorem dX10_twinsOf_28 : decode cX10_twinsOf 28 = .ok (.istore 5, 2) := by decide +kernel
theorem dX10_twinsOf_30 : decode cX10_twinsOf 30 = .ok (.aload_n 2, 1) := by decide +kernel
theorem dX10_twinsOf_31 : decode cX10_twinsOf 31 = .ok (.iload 4, 2) := by decide +kernel
theorem dX10_twinsOf_33 : decode cX10_twinsOf 33 = .ok (.iconst 1, 1) := by decide +kernel
theorem dX10_twinsOf_34 : decode cX10_twinsOf 34 = .ok (.invokevirtual 70, 3) := by decide +kernel
theorem dX10_twinsOf_37 : decode cX10_twinsOf 37 = .ok (.istore 6, 2) := by decide +kernel
theorem dX10_twinsOf_39 : decode cX10_twinsOf 39 = .ok (.iload 5, 2) := by decide +kernel
theorem dX10_twinsOf_41 : decode cX10_twinsOf 41 = .ok (.iload_n 1, 1) := by decide +kernel
theorem dX10_twinsOf_42 : decode cX10_twinsOf 42 = .ok (.if_icmp .ne 10, 3) := by decide +kernel
theorem dX10_twinsOf_45 : decode cX10_twinsOf 45 = .ok (.iload_n 3, 1) := by decide +kernel
theorem dX10_twinsOf_46 : decode cX10_twinsOf 46 = .ok (.iconst 1, 1) := by decide +kernel
theorem dX10_twinsOf_47 : decode cX10_twinsOf 47 = .ok (.iload 6, 2) := by decide +kernel
theorem dX10_twinsOf_49 : decode cX10_twinsOf 49 = .ok (.ishl, 1) := by decide +kernel
theorem dX10_twinsOf_50 : decode cX10_twinsOf 50 = .ok (.ior, 1) := by decide +kernel
theorem dX10_twinsOf_51 : decode cX10_twinsOf 51 = .ok (.istore_n 3, 1) := by decide +kernel
theorem dX10_twinsOf_52 : decode cX10_twinsOf 52 = .ok (.iload 6, 2) := by decide +kernel
theorem dX10_twinsOf_54 : decode cX10_twinsOf 54 = .ok (.iload_n 1, 1) := by decide +kernel
theorem dX10_twinsOf_55 : decode cX10_twinsOf 55 = .ok (.if_icmp .ne 10, 3) := by decide +kernel
theorem dX10_twinsOf_58 : decode cX10_twinsOf 58 = .ok (.iload_n 3, 1) := by decide +kernel
theorem dX10_twinsOf_59 : decode cX10_twinsOf 59 = .ok (.iconst 1, 1) := by decide +kernel
theorem dX10_twinsOf_60 : decode cX10_twinsOf 60 = .ok (.iload 5, 2) := by decide +kernel
theorem dX10_twinsOf_62 : decode cX10_twinsOf 62 = .ok (.ishl, 1) := by decide +kernel
theorem dX10_twinsOf_63 : decode cX10_twinsOf 63 = .ok (.ior, 1) := by decide +kernel
theorem dX10_twinsOf_64 : decode cX10_twinsOf 64 = .ok (.istore_n 3, 1) := by decide +kernel
theorem dX10_twinsOf_65 : decode cX10_twinsOf 65 = .ok (.iinc 4 1, 3) := by decide +kernel
theorem dX10_twinsOf_68 : decode cX10_twinsOf 68 = .ok (.goto (-56), 3) := by decide +kernel
theorem dX10_twinsOf_71 : decode cX10_twinsOf 71 = .ok (.iload_n 3, 1) := by decide +kernel
theorem dX10_twinsOf_72 : decode cX10_twinsOf 72 = .ok (.ireturn, 1) := by decide +kernel
theorem dX10_takenFor_0 : decode cX10_takenFor 0 = .ok (.iconst 1, 1) := by decide +kernel
theorem dX10_takenFor_1 : decode cX10_takenFor 1 = .ok (.iload_n 1, 1) := by decide +kernel
theorem dX10_takenFor_2 : decode cX10_takenFor 2 = .ok (.ishl, 1) := by decide +kernel
theorem dX10_takenFor_3 : decode cX10_takenFor 3 = .ok (.istore_n 2, 1) := by decide +kernel
theorem dX10_takenFor_4 : decode cX10_takenFor 4 = .ok (.iconst 0, 1) := by decide +kernel
theorem dX10_takenFor_5 : decode cX10_takenFor 5 = .ok (.istore_n 3, 1) := by decide +kernel
theorem dX10_takenFor_6 : decode cX10_takenFor 6 = .ok (.iload_n 3, 1) := by decide +kernel
theorem dX10_takenFor_7 : decode cX10_takenFor 7 = .ok (.bipush 20, 2) := by decide +kernel
theorem dX10_takenFor_9 : decode cX10_takenFor 9 = .ok (.if_icmp .ge 60, 3) := by decide +kernel
theorem dX10_takenFor_12 : decode cX10_takenFor 12 = .ok (.iload_n 2, 1) := by decide +kernel
theorem dX10_takenFor_13 : decode cX10_takenFor 13 = .ok (.istore 4, 2) := by decide +kernel
theorem dX10_takenFor_15 : decode cX10_takenFor 15 = .ok (.iconst 0, 1) := by decide +kernel
theorem dX10_takenFor_16 : decode cX10_takenFor 16 = .ok (.istore 5, 2) := by decide +kernel
theorem dX10_takenFor_18 : decode cX10_takenFor 18 = .ok (.iload 5, 2) := by decide +kernel
theorem dX10_takenFor_20 : decode cX10_takenFor 20 = .ok (.bipush 20, 2) := by decide +kernel
theorem dX10_takenFor_22 : decode cX10_takenFor 22 = .ok (.if_icmp .ge 30, 3) := by decide +kernel
theorem dX10_takenFor_25 : decode cX10_takenFor 25 = .ok (.iload_n 2, 1) := by decide +kernel
theorem dX10_takenFor_26 : decode cX10_takenFor 26 = .ok (.iload 5, 2) := by decide +kernel
theorem dX10_takenFor_28 : decode cX10_takenFor 28 = .ok (.ishr, 1) := by decide +kernel
theorem dX10_takenFor_29 : decode cX10_takenFor 29 = .ok (.iconst 1, 1) := by decide +kernel
theorem dX10_takenFor_30 : decode cX10_takenFor 30 = .ok (.iand, 1) := by decide +kernel
theorem dX10_takenFor_31 : decode cX10_takenFor 31 = .ok (.iconst 1, 1) := by decide +kernel
theorem dX10_takenFor_32 : decode cX10_takenFor 32 = .ok (.if_icmp .ne 14, 3) := by decide +kernel
theorem dX10_takenFor_35 : decode cX10_takenFor 35 = .ok (.iload 4, 2) := by decide +kernel
theorem dX10_takenFor_37 : decode cX10_takenFor 37 = .ok (.aload_n 0, 1) := by decide +kernel
theorem dX10_takenFor_38 : decode cX10_takenFor 38 = .ok (.iload 5, 2) := by decide +kernel
theorem dX10_takenFor_40 : decode cX10_takenFor 40 = .ok (.invokevirtual 74, 3) := by decide +kernel
theorem dX10_takenFor_43 : decode cX10_takenFor 43 = .ok (.ior, 1) := by decide +kernel
theorem dX10_takenFor_44 : decode cX10_takenFor 44 = .ok (.istore 4, 2) := by decide +kernel
theorem dX10_takenFor_46 : decode cX10_takenFor 46 = .ok (.iinc 5 1, 3) := by decide +kernel
theorem dX10_takenFor_49 : decode cX10_takenFor 49 = .ok (.goto (-31), 3) := by decide +kernel
theorem dX10_takenFor_52 : decode cX10_takenFor 52 = .ok (.iload 4, 2) := by decide +kernel
theorem dX10_takenFor_54 : decode cX10_takenFor 54 = .ok (.iload_n 2, 1) := by decide +kernel
theorem dX10_takenFor_55 : decode cX10_takenFor 55 = .ok (.if_icmp .ne 5, 3) := by decide +kernel
theorem dX10_takenFor_58 : decode cX10_takenFor 58 = .ok (.iload_n 2, 1) := by decide +kernel
theorem dX10_takenFor_59 : decode cX10_takenFor 59 = .ok (.ireturn, 1) := by decide +kernel
theorem dX10_takenFor_60 : decode cX10_takenFor 60 = .ok (.iload 4, 2) := by decide +kernel
theorem dX10_takenFor_62 : decode cX10_takenFor 62 = .ok (.istore_n 2, 1) := by decide +kernel
theorem dX10_takenFor_63 : decode cX10_takenFor 63 = .ok (.iinc 3 1, 3) := by decide +kernel
theorem dX10_takenFor_66 : decode cX10_takenFor 66 = .ok (.goto (-60), 3) := by decide +kernel
theorem dX10_takenFor_69 : decode cX10_takenFor 69 = .ok (.iload_n 2, 1) := by decide +kernel
theorem dX10_takenFor_70 : decode cX10_takenFor 70 = .ok (.ireturn, 1) := by decide +kernel
theorem dX11_init_0 : decode cX11_init 0 = .ok (.aload_n 0, 1) := by decide +kernel
theorem dX11_init_1 : decode cX11_init 1 = .ok (.invokespecial 3, 3) := by decide +kernel
theorem dX11_init_4 : decode cX11_init 4 = .ok (.aload_n 0, 1) := by decide +kernel
theorem dX11_init_5 : decode cX11_init 5 = .ok (.new 9, 3) := by decide +kernel
theorem dX11_init_8 : decode cX11_init 8 = .ok (.dup, 1) := by decide +kernel
theorem dX11_init_9 : decode cX11_init 9 = .ok (.invokespecial 11, 3) := by decide +kernel
theorem dX11_init_12 : decode cX11_init 12 = .ok (.putfield 12, 3) := by decide +kernel
theorem dX11_init_15 : decode cX11_init 15 = .ok (.aload_n 0, 1) := by decide +kernel
theorem dX11_init_16 : decode cX11_init 16 = .ok (.new 9, 3) := by decide +kernel
theorem dX11_init_19 : decode cX11_init 19 = .ok (.dup, 1) := by decide +kernel
theorem dX11_init_20 : decode cX11_init 20 = .ok (.invokespecial 11, 3) := by decide +kernel
theorem dX11_init_23 : decode cX11_init 23 = .ok (.putfield 16, 3) := by decide +kernel
theorem dX11_init_26 : decode cX11_init 26 = .ok (.aload_n 0, 1) := by decide +kernel
theorem dX11_init_27 : decode cX11_init 27 = .ok (.iconst 0, 1) := by decide +kernel
theorem dX11_init_28 : decode cX11_init 28 = .ok (.putfield 19, 3) := by decide +kernel
theorem dX11_init_31 : decode cX11_init 31 = .ok (.aload_n 0, 1) := by decide +kernel
theorem dX11_init_32 : decode cX11_init 32 = .ok (.new 23, 3) := by decide +kernel
theorem dX11_init_35 : decode cX11_init 35 = .ok (.dup, 1) := by decide +kernel
theorem dX11_init_36 : decode cX11_init 36 = .ok (.invokespecial 25, 3) := by decide +kernel
theorem dX11_init_39 : decode cX11_init 39 = .ok (.putfield 26, 3) := by decide +kernel
theorem dX11_init_42 : decode cX11_init 42 = .ok (.aload_n 0, 1) := by decide +kernel
theorem dX11_init_43 : decode cX11_init 43 = .ok (.new 30, 3) := by decide +kernel
theorem dX11_init_46 : decode cX11_init 46 = .ok (.dup, 1) := by decide +kernel
theorem dX11_init_47 : decode cX11_init 47 = .ok (.invokespecial 32, 3) := by decide +kernel
theorem dX11_init_50 : decode cX11_init 50 = .ok (.putfield 33, 3) := by decide +kernel
theorem dX11_init_53 : decode cX11_init 53 = .ok (.aload_n 0, 1) := by decide +kernel
theorem dX11_init_54 : decode cX11_init 54 = .ok (.new 37, 3) := by decide +kernel
theorem dX11_init_57 : decode cX11_init 57 = .ok (.dup, 1) := by decide +kernel
theorem dX11_init_58 : decode cX11_init 58 = .ok (.invokespecial 39, 3) := by decide +kernel
theorem dX11_init_61 : decode cX11_init 61 = .ok (.putfield 40, 3) := by decide +kernel
theorem dX11_init_64 : decode cX11_init 64 = .ok (.aload_n 0, 1) := by decide +kernel
theorem dX11_init_65 : decode cX11_init 65 = .ok (.new 44, 3) := by decide +kernel
theorem dX11_init_68 : decode cX11_init 68 = .ok (.dup, 1) := by decide +kernel
theorem dX11_init_69 : decode cX11_init 69 = .ok (.invokespecial 46, 3) := by decide +kernel
theorem dX11_init_72 : decode cX11_init 72 = .ok (.putfield 47, 3) := by decide +kernel
theorem dX11_init_75 : decode cX11_init 75 = .ok (.aload_n 0, 1) := by decide +kernel
theorem dX11_init_76 : decode cX11_init 76 = .ok (.new 51, 3) := by decide +kernel
theorem dX11_init_79 : decode cX11_init 79 = .ok (.dup, 1) := by decide +kernel
theorem dX11_init_80 : decode cX11_init 80 = .ok (.invokespecial 53, 3) := by decide +kernel
theorem dX11_init_83 : decode cX11_init 83 = .ok (.putfield 54, 3) := by decide +kernel
theorem dX11_init_86 : decode cX11_init 86 = .ok (.aload_n 0, 1) := by decide +kernel
theorem dX11_init_87 : decode cX11_init 87 = .ok (.new 58, 3) := by decide +kernel
theorem dX11_init_90 : decode cX11_init 90 = .ok (.dup, 1) := by decide +kernel
theorem dX11_init_91 : decode cX11_init 91 = .ok (.invokespecial 60, 3) := by decide +kernel
theorem dX11_init_94 : decode cX11_init 94 = .ok (.putfield 61, 3) := by decide +kernel
theorem dX11_init_97 : decode cX11_init 97 = .ok (.aload_n 0, 1) := by decide +kernel
theorem dX11_init_98 : decode cX11_init 98 = .ok (.new 65, 3) := by decide +kernel
theorem dX11_init_101 : decode cX11_init 101 = .ok (.dup, 1) := by decide +kernel
theorem dX11_init_102 : decode cX11_init 102 = .ok (.aload_n 0, 1) := by decide +kernel
theorem dX11_init_103 : decode cX11_init 103 = .ok (.getfield 12, 3) := by decide +kernel
theorem dX11_init_106 : decode cX11_init 106 = .ok (.getfield 67, 3) := by decide +kernel
theorem dX11_init_109 : decode cX11_init 109 = .ok (.aload_n 0, 1) := by decide +kernel
theorem dX11_init_110 : decode cX11_init 110 = .ok (.getfield 12, 3) := by decide +kernel
theorem dX11_init_113 : decode cX11_init 113 = .ok (.getfield 70, 3) := by decide +kernel
theorem dX11_init_116 : decode cX11_init 116 = .ok (.aload_n 0, 1) := by decide +kernel
theorem dX11_init_117 : decode cX11_init 117 = .ok (.getfield 12, 3) := by decide +kernel
theorem dX11_init_120 : decode cX11_init 120 = .ok (.getfield 74, 3) := by decide +kernel
theorem dX11_init_123 : decode cX11_init 123 = .ok (.invokespecial 78, 3) := by decide +kernel
theorem dX11_init_126 : decode cX11_init 126 = .ok (.putfield 81, 3) := by decide +kernel
theorem dX11_init_129 : decode cX11_init 129 = .ok (.aload_n 0, 1) := by decide +kernel
theorem dX11_init_130 : decode cX11_init 130 = .ok (.new 65, 3) := by decide +kernel
theorem dX11_init_133 : decode cX11_init 133 = .ok (.dup, 1) := by decide +kernel
theorem dX11_init_134 : decode cX11_init 134 = .ok (.aload_n 0, 1) := by decide +kernel
theorem dX11_init_135 : decode cX11_init 135 = .ok (.getfield 40, 3) := by decide +kernel
theorem dX11_init_138 : decode cX11_init 138 = .ok (.aload_n 0, 1) := by decide +kernel
theorem dX11_init_139 : decode cX11_init 139 = .ok (.getfield 12, 3) := by decide +kernel
theorem dX11_init_142 : decode cX11_init 142 = .ok (.getfield 70, 3) := by decide +kernel
theorem dX11_init_145 : decode cX11_init 145 = .ok (.aconst_null, 1) := by decide +kernel
theorem dX11_init_146 : decode cX11_init 146 = .ok (.invokespecial 78, 3) := by decide +kernel
theorem dX11_init_149 : decode cX11_init 149 = .ok (.putfield 85, 3) := by decide +kernel
theorem dX11_init_152 : decode cX11_init 152 = .ok (.return_, 1) := by decide +kernel
theorem dX11_state_0 : decode cX11_state 0 = .ok (.aload_n 0, 1) := by decide +kernel
theorem dX11_state_1 : decode cX11_state 1 = .ok (.getfield 12, 3) := by decide +kernel
theorem dX11_state_4 : decode cX11_state 4 = .ok (.getfield 67, 3) := by decide +kernel
theorem dX11_state_7 : decode cX11_state 7 = .ok (.getfield 88, 3) := by decide +kernel
theorem dX11_state_10 : decode cX11_state 10 = .ok (.istore_n 2, 1) := by decide +kernel
theorem dX11_state_11 : decode cX11_state 11 = .ok (.aload_n 0, 1) := by decide +kernel
theorem dX11_state_12 : decode cX11_state 12 = .ok (.getfield 12, 3) := by decide +kernel
theorem dX11_state_15 : decode cX11_state 15 = .ok (.getfield 67, 3) := by decide +kernel
theorem dX11_state_18 : decode cX11_state 18 = .ok (.iload_n 1, 1) := by decide +kernel
theorem dX11_state_19 : decode cX11_state 19 = .ok (.putfield 88, 3) := by decide +kernel
theorem dX11_state_22 : decode cX11_state 22 = .ok (.aload_n 0, 1) := by decide +kernel
theorem dX11_state_23 : decode cX11_state 23 = .ok (.getfield 26, 3) := by decide +kernel
theorem dX11_state_26 : decode cX11_state 26 = .ok (.invokevirtual 92, 3) := by decide +kernel
theorem dX11_state_29 : decode cX11_state 29 = .ok (.iload_n 2, 1) := by decide +kernel
theorem dX11_state_30 : decode cX11_state 30 = .ok (.ireturn, 1) := by decide +kernel
theorem dX11_voter_0 : decode cX11_voter 0 = .ok (.iconst 0, 1) := by decide +kernel
theorem dX11_voter_1 : decode cX11_voter 1 = .ok (.iload_n 1, 1) := by decide +kernel
theorem dX11_voter_2 : decode cX11_voter 2 = .ok (.invokestatic 95, 3) := by decide +kernel
theorem dX11_voter_5 : decode cX11_voter 5 = .ok (.ifCond .eq 32, 3) := by decide +kernel
theorem dX11_voter_8 : decode cX11_voter 8 = .ok (.iconst 1, 1) := by decide +kernel
theorem dX11_voter_9 : decode cX11_voter 9 = .ok (.iload_n 2, 1) := by decide +kernel
theorem dX11_voter_10 : decode cX11_voter 10 = .ok (.invokestatic 95, 3) := by decide +kernel
theorem dX11_voter_13 : decode cX11_voter 13 = .ok (.ifCond .eq 24, 3) := by decide +kernel
theorem dX11_voter_16 : decode cX11_voter 16 = .ok (.iconst 2, 1) := by decide +kernel
theorem dX11_voter_17 : decode cX11_voter 17 = .ok (.iload_n 3, 1) := by decide +kernel
theorem dX11_voter_18 : decode cX11_voter 18 = .ok (.invokestatic 95, 3) := by decide +kernel
theorem dX11_voter_21 : decode cX11_voter 21 = .ok (.ifCond .eq 16, 3) := by decide +kernel
theorem dX11_voter_24 : decode cX11_voter 24 = .ok (.iconst 3, 1) := by decide +kernel
theorem dX11_voter_25 : decode cX11_voter 25 = .ok (.iload 4, 2) := by decide +kernel
theorem dX11_voter_27 : decode cX11_voter 27 = .ok (.invokestatic 95, 3) := by decide +kernel
theorem dX11_voter_30 : decode cX11_voter 30 = .ok (.ifCond .eq 7, 3) := by decide +kernel
theorem dX11_voter_33 : decode cX11_voter 33 = .ok (.iconst 1, 1) := by decide +kernel
theorem dX11_voter_34 : decode cX11_voter 34 = .ok (.goto 4, 3) := by decide +kernel
theorem dX11_voter_37 : decode cX11_voter 37 = .ok (.iconst 0, 1) := by decide +kernel
theorem dX11_voter_38 : decode cX11_voter 38 = .ok (.istore 5, 2) := by decide +kernel
theorem dX11_voter_40 : decode cX11_voter 40 = .ok (.iload 5, 2) := by decide +kernel
theorem dX11_voter_42 : decode cX11_voter 42 = .ok (.ifCond .eq 18, 3) := by decide +kernel
theorem dX11_voter_45 : decode cX11_voter 45 = .ok (.aload_n 0, 1) := by decide +kernel
theorem dX11_voter_46 : decode cX11_voter 46 = .ok (.getfield 12, 3) := by decide +kernel
theorem dX11_voter_49 : decode cX11_voter 49 = .ok (.getfield 67, 3) := by decide +kernel
theorem dX11_voter_52 : decode cX11_voter 52 = .ok (.getfield 99, 3) := by decide +kernel
theorem dX11_voter_55 : decode cX11_voter 55 = .ok (.bipush 20, 2) := by decide +kernel
theorem dX11_voter_57 : decode cX11_voter 57 = .ok (.if_icmp .lt 5, 3) := by decide +kernel
theorem dX11_voter_60 : decode cX11_voter 60 = .ok (.iconst (-1), 1) := by decide +kernel
theorem dX11_voter_61 : decode cX11_voter 61 = .ok (.ireturn, 1) := by decide +kernel
theorem dX11_voter_62 : decode cX11_voter 62 = .ok (.aload_n 0, 1) := by decide +kernel
theorem dX11_voter_63 : decode cX11_voter 63 = .ok (.getfield 12, 3) := by decide +kernel
theorem dX11_voter_66 : decode cX11_voter 66 = .ok (.getfield 67, 3) := by decide +kernel
theorem dX11_voter_69 : decode cX11_voter 69 = .ok (.getfield 99, 3) := by decide +kernel
theorem dX11_voter_72 : decode cX11_voter 72 = .ok (.istore 6, 2) := by decide +kernel
theorem dX11_voter_74 : decode cX11_voter 74 = .ok (.aload_n 0, 1) := by decide +kernel
theorem dX11_voter_75 : decode cX11_voter 75 = .ok (.getfield 12, 3) := by decide +kernel
theorem dX11_voter_78 : decode cX11_voter 78 = .ok (.getfield 67, 3) := by decide +kernel
theorem dX11_voter_81 : decode cX11_voter 81 = .ok (.iload 6, 2) := by decide +kernel
theorem dX11_voter_83 : decode cX11_voter 83 = .ok (.iconst 1, 1) := by decide +kernel
theorem dX11_voter_84 : decode cX11_voter 84 = .ok (.iadd, 1) := by decide +kernel
theorem dX11_voter_85 : decode cX11_voter 85 = .ok (.putfield 99, 3) := by decide +kernel
theorem dX11_voter_88 : decode cX11_voter 88 = .ok (.aload_n 0, 1) := by decide +kernel
theorem dX11_voter_89 : decode cX11_voter 89 = .ok (.getfield 12, 3) := by decide +kernel
theorem dX11_voter_92 : decode cX11_voter 92 = .ok (.getfield 67, 3) := by decide +kernel
theorem dX11_voter_95 : decode cX11_voter 95 = .ok (.iload 6, 2) := by decide +kernel
theorem dX11_voter_97 : decode cX11_voter 97 = .ok (.iconst 0, 1) := by decide +kernel
theorem dX11_voter_98 : decode cX11_voter 98 = .ok (.iload_n 1, 1) := by decide +kernel
theorem dX11_voter_99 : decode cX11_voter 99 = .ok (.invokevirtual 102, 3) := by decide +kernel
theorem dX11_voter_102 : decode cX11_voter 102 = .ok (.aload_n 0, 1) := by decide +kernel
theorem dX11_voter_103 : decode cX11_voter 103 = .ok (.getfield 12, 3) := by decide +kernel
theorem dX11_voter_106 : decode cX11_voter 106 = .ok (.getfield 67, 3) := by decide +kernel
theorem dX11_voter_109 : decode cX11_voter 109 = .ok (.iload 6, 2) := by decide +kernel
theorem dX11_voter_111 : decode cX11_voter 111 = .ok (.iconst 1, 1) := by decide +kernel
theorem dX11_voter_112 : decode cX11_voter 112 = .ok (.iload_n 2, 1) := by decide +kernel
theorem dX11_voter_113 : decode cX11_voter 113 = .ok (.invokevirtual 102, 3) := by decide +kernel
theorem dX11_voter_116 : decode cX11_voter 116 = .ok (.aload_n 0, 1) := by decide +kernel
theorem dX11_voter_117 : decode cX11_voter 117 = .ok (.getfield 12, 3) := by decide +kernel
theorem dX11_voter_120 : decode cX11_voter 120 = .ok (.getfield 67, 3) := by decide +kernel
theorem dX11_voter_123 : decode cX11_voter 123 = .ok (.iload 6, 2) := by decide +kernel
theorem dX11_voter_125 : decode cX11_voter 125 = .ok (.iconst 2, 1) := by decide +kernel
theorem dX11_voter_126 : decode cX11_voter 126 = .ok (.iload_n 3, 1) := by decide +kernel
theorem dX11_voter_127 : decode cX11_voter 127 = .ok (.invokevirtual 102, 3) := by decide +kernel
theorem dX11_voter_130 : decode cX11_voter 130 = .ok (.aload_n 0, 1) := by decide +kernel
theorem dX11_voter_131 : decode cX11_voter 131 = .ok (.getfield 12, 3) := by decide +kernel
theorem dX11_voter_134 : decode cX11_voter 134 = .ok (.getfield 67, 3) := by decide +kernel
theorem dX11_voter_137 : decode cX11_voter 137 = .ok (.iload 6, 2) := by decide +kernel
theorem dX11_voter_139 : decode cX11_voter 139 = .ok (.iconst 3, 1) := by decide +kernel
theorem dX11_voter_140 : decode cX11_voter 140 = .ok (.iload 4, 2) := by decide +kernel
theorem dX11_voter_142 : decode cX11_voter 142 = .ok (.invokevirtual 102, 3) := by decide +kernel
theorem dX11_voter_145 : decode cX11_voter 145 = .ok (.aload_n 0, 1) := by decide +kernel
theorem dX11_voter_146 : decode cX11_voter 146 = .ok (.getfield 12, 3) := by decide +kernel
theorem dX11_voter_149 : decode cX11_voter 149 = .ok (.getfield 67, 3) := by decide +kernel
theorem dX11_voter_152 : decode cX11_voter 152 = .ok (.iload 6, 2) := by decide +kernel
theorem dX11_voter_154 : decode cX11_voter 154 = .ok (.iconst 4, 1) := by decide +kernel
theorem dX11_voter_155 : decode cX11_voter 155 = .ok (.iconst 0, 1) := by decide +kernel
theorem dX11_voter_156 : decode cX11_voter 156 = .ok (.invokevirtual 102, 3) := by decide +kernel
theorem dX11_voter_159 : decode cX11_voter 159 = .ok (.aload_n 0, 1) := by decide +kernel
theorem dX11_voter_160 : decode cX11_voter 160 = .ok (.getfield 12, 3) := by decide +kernel
theorem dX11_voter_163 : decode cX11_voter 163 = .ok (.getfield 67, 3) := by decide +kernel
theorem dX11_voter_166 : decode cX11_voter 166 = .ok (.iload 6, 2) := by decide +kernel
theorem dX11_voter_168 : decode cX11_voter 168 = .ok (.iconst 5, 1) := by decide +kernel
theorem dX11_voter_169 : decode cX11_voter 169 = .ok (.iconst 0, 1) := by decide +kernel
theorem dX11_voter_170 : decode cX11_voter 170 = .ok (.invokevirtual 102, 3) := by decide +kernel
theorem dX11_voter_173 : decode cX11_voter 173 = .ok (.aload_n 0, 1) := by decide +kernel
theorem dX11_voter_174 : decode cX11_voter 174 = .ok (.getfield 26, 3) := by decide +kernel
theorem dX11_voter_177 : decode cX11_voter 177 = .ok (.invokevirtual 92, 3) := by decide +kernel
theorem dX11_voter_180 : decode cX11_voter 180 = .ok (.iload 6, 2) := by decide +kernel
theorem dX11_voter_182 : decode cX11_voter 182 = .ok (.ireturn, 1) := by decide +kernel
theorem dX11_set_0 : decode cX11_set 0 = .ok (.iload_n 1, 1) := by decide +kernel
theorem dX11_set_1 : decode cX11_set 1 = .ok (.iconst 4, 1) := by decide +kernel
theorem dX11_set_2 : decode cX11_set 2 = .ok (.if_icmp .ne 29, 3) := by decide +kernel
theorem dX11_set_5 : decode cX11_set 5 = .ok (.iload_n 3, 1) := by decide +kernel
theorem dX11_set_6 : decode cX11_set 6 = .ok (.ifCond .lt 9, 3) := by decide +kernel
theorem dX11_set_9 : decode cX11_set 9 = .ok (.iload_n 3, 1) := by decide +kernel
theorem dX11_set_10 : decode cX11_set 10 = .ok (.bipush 9, 2) := by decide +kernel
theorem dX11_set_12 : decode cX11_set 12 = .ok (.if_icmp .le 5, 3) := by decide +kernel
theorem dX11_set_15 : decode cX11_set 15 = .ok (.iconst 0, 1) := by decide +kernel
theorem dX11_set_16 : decode cX11_set 16 = .ok (.ireturn, 1) := by decide +kernel
theorem dX11_set_17 : decode cX11_set 17 = .ok (.aload_n 0, 1) := by decide +kernel
theorem dX11_set_18 : decode cX11_set 18 = .ok (.getfield 12, 3) := by decide +kernel
theorem dX11_set_21 : decode cX11_set 21 = .ok (.getfield 67, 3) := by decide +kernel
theorem dX11_set_24 : decode cX11_set 24 = .ok (.iload_n 3, 1) := by decide +kernel
theorem dX11_set_25 : decode cX11_set 25 = .ok (.putfield 106, 3) := by decide +kernel
theorem dX11_set_28 : decode cX11_set 28 = .ok (.goto 40, 3) := by decide +kernel
theorem dX11_set_31 : decode cX11_set 31 = .ok (.aload_n 0, 1) := by decide +kernel
theorem dX11_set_32 : decode cX11_set 32 = .ok (.getfield 12, 3) := by decide +kernel
theorem dX11_set_35 : decode cX11_set 35 = .ok (.getfield 67, 3) := by decide +kernel
theorem dX11_set_38 : decode cX11_set 38 = .ok (.iload_n 2, 1) := by decide +kernel
theorem dX11_set_39 : decode cX11_set 39 = .ok (.invokevirtual 109, 3) := by decide +kernel
theorem dX11_set_42 : decode cX11_set 42 = .ok (.ifCond .eq 11, 3) := by decide +kernel
theorem dX11_set_45 : decode cX11_set 45 = .ok (.iload_n 1, 1) := by decide +kernel
theorem dX11_set_46 : decode cX11_set 46 = .ok (.iload_n 3, 1) := by decide +kernel
theorem dX11_set_47 : decode cX11_set 47 = .ok (.invokestatic 95, 3) := by decide +kernel
theorem dX11_set_50 : decode cX11_set 50 = .ok (.ifCond .ne 5, 3) := by decide +kernel
theorem dX11_set_53 : decode cX11_set 53 = .ok (.iconst 0, 1) := by decide +kernel
theorem dX11_set_54 : decode cX11_set 54 = .ok (.ireturn, 1) := by decide +kernel
theorem dX11_set_55 : decode cX11_set 55 = .ok (.aload_n 0, 1) := by decide +kernel
theorem dX11_set_56 : decode cX11_set 56 = .ok (.getfield 12, 3) := by decide +kernel
theorem dX11_set_59 : decode cX11_set 59 = .ok (.getfield 67, 3) := by decide +kernel
theorem dX11_set_62 : decode cX11_set 62 = .ok (.iload_n 2, 1) := by decide +kernel
theorem dX11_set_63 : decode cX11_set 63 = .ok (.iload_n 1, 1) := by decide +kernel
theorem dX11_set_64 : decode cX11_set 64 = .ok (.iload_n 3, 1) := by decide +kernel
theorem dX11_set_65 : decode cX11_set 65 = .ok (.invokevirtual 102, 3) := by decide +kernel
theorem dX11_set_68 : decode cX11_set 68 = .ok (.aload_n 0, 1) := by decide +kernel
theorem dX11_set_69 : decode cX11_set 69 = .ok (.getfield 26, 3) := by decide +kernel
theorem dX11_set_72 : decode cX11_set 72 = .ok (.invokevirtual 92, 3) := by decide +kernel
theorem dX11_set_75 : decode cX11_set 75 = .ok (.iconst 1, 1) := by decide +kernel
theorem dX11_set_76 : decode cX11_set 76 = .ok (.ireturn, 1) := by decide +kernel
theorem dX11_press_0 : decode cX11_press 0 = .ok (.aload_n 0, 1) := by decide +kernel
theorem dX11_press_1 : decode cX11_press 1 = .ok (.getfield 12, 3) := by decide +kernel
theorem dX11_press_4 : decode cX11_press 4 = .ok (.getfield 67, 3) := by decide +kernel
theorem dX11_press_7 : decode cX11_press 7 = .ok (.iload_n 1, 1) := by decide +kernel
theorem dX11_press_8 : decode cX11_press 8 = .ok (.invokevirtual 113, 3) := by decide +kernel
theorem dX11_press_11 : decode cX11_press 11 = .ok (.ifCond .eq 13, 3) := by decide +kernel
theorem dX11_press_14 : decode cX11_press 14 = .ok (.iload_n 2, 1) := by decide +kernel
theorem dX11_press_15 : decode cX11_press 15 = .ok (.ifCond .lt 9, 3) := by decide +kernel
theorem dX11_press_18 : decode cX11_press 18 = .ok (.iload_n 2, 1) := by decide +kernel
theorem dX11_press_19 : decode cX11_press 19 = .ok (.bipush 12, 2) := by decide +kernel
theorem dX11_press_21 : decode cX11_press 21 = .ok (.if_icmp .lt 5, 3) := by decide +kernel
theorem dX11_press_24 : decode cX11_press 24 = .ok (.iconst (-1), 1) := by decide +kernel
theorem dX11_press_25 : decode cX11_press 25 = .ok (.ireturn, 1) := by decide +kernel
theorem dX11_press_26 : decode cX11_press 26 = .ok (.aload_n 0, 1) := by decide +kernel
theorem dX11_press_27 : decode cX11_press 27 = .ok (.getfield 26, 3) := by decide +kernel
theorem dX11_press_30 : decode cX11_press 30 = .ok (.aload_n 0, 1) := by decide +kernel
theorem dX11_press_31 : decode cX11_press 31 = .ok (.getfield 12, 3) := by decide +kernel
theorem dX11_press_34 : decode cX11_press 34 = .ok (.getfield 67, 3) := by decide +kernel
theorem dX11_press_37 : decode cX11_press 37 = .ok (.invokevirtual 116, 3) := by decide +kernel
theorem dX11_press_40 : decode cX11_press 40 = .ok (.aload_n 0, 1) := by decide +kernel
theorem dX11_press_41 : decode cX11_press 41 = .ok (.getfield 81, 3) := by decide +kernel
theorem dX11_press_44 : decode cX11_press 44 = .ok (.iload_n 1, 1) := by decide +kernel
theorem dX11_press_45 : decode cX11_press 45 = .ok (.iload_n 2, 1) := by decide +kernel
theorem dX11_press_46 : decode cX11_press 46 = .ok (.invokevirtual 120, 3) := by decide +kernel
theorem dX11_press_49 : decode cX11_press 49 = .ok (.ireturn, 1) := by decide +kernel
theorem dX11_lift_0 : decode cX11_lift 0 = .ok (.iload_n 1, 1) := by decide +kernel
theorem dX11_lift_1 : decode cX11_lift 1 = .ok (.iload_n 2, 1) := by decide +kernel
theorem dX11_lift_2 : decode cX11_lift 2 = .ok (.invokestatic 124, 3) := by decide +kernel
theorem dX11_lift_5 : decode cX11_lift 5 = .ok (.istore_n 3, 1) := by decide +kernel
theorem dX11_lift_6 : decode cX11_lift 6 = .ok (.aload_n 0, 1) := by decide +kernel
theorem dX11_lift_7 : decode cX11_lift 7 = .ok (.getfield 12, 3) := by decide +kernel
theorem dX11_lift_10 : decode cX11_lift 10 = .ok (.getfield 67, 3) := by decide +kernel
theorem dX11_lift_13 : decode cX11_lift 13 = .ok (.iload_n 3, 1) := by decide +kernel
theorem dX11_lift_14 : decode cX11_lift 14 = .ok (.invokevirtual 127, 3) := by decide +kernel
theorem dX11_lift_17 : decode cX11_lift 17 = .ok (.ifCond .ne 5, 3) := by decide +kernel
theorem dX11_lift_20 : decode cX11_lift 20 = .ok (.iconst 0, 1) := by decide +kernel
theorem dX11_lift_21 : decode cX11_lift 21 = .ok (.ireturn, 1) := by decide +kernel
theorem dX11_lift_22 : decode cX11_lift 22 = .ok (.aload_n 0, 1) := by decide +kernel
theorem dX11_lift_23 : decode cX11_lift 23 = .ok (.getfield 26, 3) := by decide +kernel
theorem dX11_lift_26 : decode cX11_lift 26 = .ok (.aload_n 0, 1) := by decide +kernel
theorem dX11_lift_27 : decode cX11_lift 27 = .ok (.getfield 12, 3) := by decide +kernel
theorem dX11_lift_30 : decode cX11_lift 30 = .ok (.getfield 67, 3) := by decide +kernel
theorem dX11_lift_33 : decode cX11_lift 33 = .ok (.invokevirtual 116, 3) := by decide +kernel
theorem dX11_lift_36 : decode cX11_lift 36 = .ok (.aload_n 0, 1) := by decide +kernel
theorem dX11_lift_37 : decode cX11_lift 37 = .ok (.getfield 81, 3) := by decide +kernel
theorem dX11_lift_40 : decode cX11_lift 40 = .ok (.iload_n 3, 1) := by decide +kernel
theorem dX11_lift_41 : decode cX11_lift 41 = .ok (.iconst 3, 1) := by decide +kernel
theorem dX11_lift_42 : decode cX11_lift 42 = .ok (.invokevirtual 130, 3) := by decide +kernel
theorem dX11_lift_45 : decode cX11_lift 45 = .ok (.iconst 1, 1) := by decide +kernel
theorem dX11_lift_46 : decode cX11_lift 46 = .ok (.ireturn, 1) := by decide +kernel
theorem dX11_hand_0 : decode cX11_hand 0 = .ok (.aload_n 0, 1) := by decide +kernel
theorem dX11_hand_1 : decode cX11_hand 1 = .ok (.getfield 12, 3) := by decide +kernel
theorem dX11_hand_4 : decode cX11_hand 4 = .ok (.getfield 67, 3) := by decide +kernel
theorem dX11_hand_7 : decode cX11_hand 7 = .ok (.iload_n 1, 1) := by decide +kernel
theorem dX11_hand_8 : decode cX11_hand 8 = .ok (.invokevirtual 109, 3) := by decide +kernel
theorem dX11_hand_11 : decode cX11_hand 11 = .ok (.ifCond .eq 28, 3) := by decide +kernel
theorem dX11_hand_14 : decode cX11_hand 14 = .ok (.iload_n 2, 1) := by decide +kernel
theorem dX11_hand_15 : decode cX11_hand 15 = .ok (.ifCond .lt 24, 3) := by decide +kernel
theorem dX11_hand_18 : decode cX11_hand 18 = .ok (.iload_n 2, 1) := by decide +kernel
theorem dX11_hand_19 : decode cX11_hand 19 = .ok (.iconst 2, 1) := by decide +kernel
theorem dX11_hand_20 : decode cX11_hand 20 = .ok (.if_icmp .gt 19, 3) := by decide +kernel
theorem dX11_hand_23 : decode cX11_hand 23 = .ok (.aload_n 0, 1) := by decide +kernel
theorem dX11_hand_24 : decode cX11_hand 24 = .ok (.getfield 12, 3) := by decide +kernel
theorem dX11_hand_27 : decode cX11_hand 27 = .ok (.getfield 67, 3) := by decide +kernel
theorem dX11_hand_30 : decode cX11_hand 30 = .ok (.iload_n 1, 1) := by decide +kernel
theorem dX11_hand_31 : decode cX11_hand 31 = .ok (.iconst 4, 1) := by decide +kernel
theorem dX11_hand_32 : decode cX11_hand 32 = .ok (.invokevirtual 134, 3) := by decide +kernel
theorem dX11_hand_35 : decode cX11_hand 35 = .ok (.iload_n 2, 1) := by decide +kernel
theorem dX11_hand_36 : decode cX11_hand 36 = .ok (.if_icmp .ne 5, 3) := by decide +kernel
theorem dX11_hand_39 : decode cX11_hand 39 = .ok (.iconst 0, 1) := by decide +kernel
theorem dX11_hand_40 : decode cX11_hand 40 = .ok (.ireturn, 1) := by decide +kernel
theorem dX11_hand_41 : decode cX11_hand 41 = .ok (.aload_n 0, 1) := by decide +kernel
theorem dX11_hand_42 : decode cX11_hand 42 = .ok (.getfield 26, 3) := by decide +kernel
theorem dX11_hand_45 : decode cX11_hand 45 = .ok (.aload_n 0, 1) := by decide +kernel
theorem dX11_hand_46 : decode cX11_hand 46 = .ok (.getfield 12, 3) := by decide +kernel
theorem dX11_hand_49 : decode cX11_hand 49 = .ok (.getfield 67, 3) := by decide +kernel
theorem dX11_hand_52 : decode cX11_hand 52 = .ok (.invokevirtual 116, 3) := by decide +kernel
theorem dX11_hand_55 : decode cX11_hand 55 = .ok (.aload_n 0, 1) := by decide +kernel
theorem dX11_hand_56 : decode cX11_hand 56 = .ok (.getfield 12, 3) := by decide +kernel
theorem dX11_hand_59 : decode cX11_hand 59 = .ok (.getfield 67, 3) := by decide +kernel
theorem dX11_hand_62 : decode cX11_hand 62 = .ok (.iload_n 1, 1) := by decide +kernel
theorem dX11_hand_63 : decode cX11_hand 63 = .ok (.iconst 4, 1) := by decide +kernel
theorem dX11_hand_64 : decode cX11_hand 64 = .ok (.iload_n 2, 1) := by decide +kernel
theorem dX11_hand_65 : decode cX11_hand 65 = .ok (.invokevirtual 102, 3) := by decide +kernel
theorem dX11_hand_68 : decode cX11_hand 68 = .ok (.iconst 1, 1) := by decide +kernel
theorem dX11_hand_69 : decode cX11_hand 69 = .ok (.ireturn, 1) := by decide +kernel
theorem dX11_hours_0 : decode cX11_hours 0 = .ok (.iload_n 1, 1) := by decide +kernel
theorem dX11_hours_1 : decode cX11_hours 1 = .ok (.iconst 1, 1) := by decide +kernel
theorem dX11_hours_2 : decode cX11_hours 2 = .ok (.if_icmp .lt 41, 3) := by decide +kernel
theorem dX11_hours_5 : decode cX11_hours 5 = .ok (.iload_n 1, 1) := by decide +kernel
theorem dX11_hours_6 : decode cX11_hours 6 = .ok (.bipush 60, 2) := by decide +kernel
theorem dX11_hours_8 : decode cX11_hours 8 = .ok (.if_icmp .gt 35, 3) := by decide +kernel
theorem dX11_hours_11 : decode cX11_hours 11 = .ok (.aload_n 0, 1) := by decide +kernel
theorem dX11_hours_12 : decode cX11_hours 12 = .ok (.getfield 12, 3) := by decide +kernel
theorem dX11_hours_15 : decode cX11_hours 15 = .ok (.getfield 67, 3) := by decide +kernel
theorem dX11_hours_18 : decode cX11_hours 18 = .ok (.getfield 137, 3) := by decide +kernel
theorem dX11_hours_21 : decode cX11_hours 21 = .ok (.aload_n 0, 1) := by decide +kernel
theorem dX11_hours_22 : decode cX11_hours 22 = .ok (.getfield 12, 3) := by decide +kernel
theorem dX11_hours_25 : decode cX11_hours 25 = .ok (.getfield 67, 3) := by decide +kernel
theorem dX11_hours_28 : decode cX11_hours 28 = .ok (.getfield 140, 3) := by decide +kernel
theorem dX11_hours_31 : decode cX11_hours 31 = .ok (.iload_n 1, 1) := by decide +kernel
theorem dX11_hours_32 : decode cX11_hours 32 = .ok (.iadd, 1) := by decide +kernel
theorem dX11_hours_33 : decode cX11_hours 33 = .ok (.bipush 12, 2) := by decide +kernel
theorem dX11_hours_35 : decode cX11_hours 35 = .ok (.idiv, 1) := by decide +kernel
theorem dX11_hours_36 : decode cX11_hours 36 = .ok (.iadd, 1) := by decide +kernel
theorem dX11_hours_37 : decode cX11_hours 37 = .ok (.sipush 9990, 3) := by decide +kernel
theorem dX11_hours_40 : decode cX11_hours 40 = .ok (.if_icmp .le 5, 3) := by decide +kernel
theorem dX11_hours_43 : decode cX11_hours 43 = .ok (.iconst (-1), 1) := by decide +kernel
theorem dX11_hours_44 : decode cX11_hours 44 = .ok (.ireturn, 1) := by decide +kernel
theorem dX11_hours_45 : decode cX11_hours 45 = .ok (.iconst 0, 1) := by decide +kernel
theorem dX11_hours_46 : decode cX11_hours 46 = .ok (.istore_n 2, 1) := by decide +kernel
theorem dX11_hours_47 : decode cX11_hours 47 = .ok (.iconst 0, 1) := by decide +kernel
theorem dX11_hours_48 : decode cX11_hours 48 = .ok (.istore_n 3, 1) := by decide +kernel
theorem dX11_hours_49 : decode cX11_hours 49 = .ok (.iload_n 3, 1) := by decide +kernel
theorem dX11_hours_50 : decode cX11_hours 50 = .ok (.iload_n 1, 1) := by decide +kernel
theorem dX11_hours_51 : decode cX11_hours 51 = .ok (.if_icmp .ge 41, 3) := by decide +kernel
theorem dX11_hours_54 : decode cX11_hours 54 = .ok (.iload_n 1, 1) := by decide +kernel
theorem dX11_hours_55 : decode cX11_hours 55 = .ok (.iload_n 3, 1) := by decide +kernel
theorem dX11_hours_56 : decode cX11_hours 56 = .ok (.isub, 1) := by decide +kernel
theorem dX11_hours_57 : decode cX11_hours 57 = .ok (.bipush 6, 2) := by decide +kernel
theorem dX11_hours_59 : decode cX11_hours 59 = .ok (.if_icmp .gt 17, 3) := by decide +kernel
theorem dX11_hours_62 : decode cX11_hours 62 = .ok (.aload_n 0, 1) := by decide +kernel
theorem dX11_hours_63 : decode cX11_hours 63 = .ok (.getfield 26, 3) := by decide +kernel
theorem dX11_hours_66 : decode cX11_hours 66 = .ok (.aload_n 0, 1) := by decide +kernel
theorem dX11_hours_67 : decode cX11_hours 67 = .ok (.getfield 12, 3) := by decide +kernel
theorem dX11_hours_70 : decode cX11_hours 70 = .ok (.getfield 67, 3) := by decide +kernel
theorem dX11_hours_73 : decode cX11_hours 73 = .ok (.invokevirtual 116, 3) := by decide +kernel
theorem dX11_hours_76 : decode cX11_hours 76 = .ok (.iload_n 2, 1) := by decide +kernel
theorem dX11_hours_77 : decode cX11_hours 77 = .ok (.aload_n 0, 1) := by decide +kernel
theorem dX11_hours_78 : decode cX11_hours 78 = .ok (.getfield 81, 3) := by decide +kernel
theorem dX11_hours_81 : decode cX11_hours 81 = .ok (.invokevirtual 143, 3) := by decide +kernel
theorem dX11_hours_84 : decode cX11_hours 84 = .ok (.iadd, 1) := by decide +kernel
theorem dX11_hours_85 : decode cX11_hours 85 = .ok (.istore_n 2, 1) := by decide +kernel
theorem dX11_hours_86 : decode cX11_hours 86 = .ok (.iinc 3 1, 3) := by decide +kernel
theorem dX11_hours_89 : decode cX11_hours 89 = .ok (.goto (-40), 3) := by decide +kernel
theorem dX11_hours_92 : decode cX11_hours 92 = .ok (.iload_n 2, 1) := by decide +kernel
theorem dX11_hours_93 : decode cX11_hours 93 = .ok (.ireturn, 1) := by decide +kernel
theorem dX11_feed_0 : decode cX11_feed 0 = .ok (.aload_n 0, 1) := by decide +kernel
theorem dX11_feed_1 : decode cX11_feed 1 = .ok (.getfield 33, 3) := by decide +kernel
theorem dX11_feed_4 : decode cX11_feed 4 = .ok (.getfield 147, 3) := by decide +kernel
theorem dX11_feed_7 : decode cX11_feed 7 = .ok (.bipush 20, 2) := by decide +kernel
theorem dX11_feed_9 : decode cX11_feed 9 = .ok (.iadd, 1) := by decide +kernel
theorem dX11_feed_10 : decode cX11_feed 10 = .ok (.sipush 400, 3) := by decide +kernel
theorem dX11_feed_13 : decode cX11_feed 13 = .ok (.if_icmp .le 5, 3) := by decide +kernel
theorem dX11_feed_16 : decode cX11_feed 16 = .ok (.iconst (-1), 1) := by decide +kernel
theorem dX11_feed_17 : decode cX11_feed 17 = .ok (.ireturn, 1) := by decide +kernel
theorem dX11_feed_18 : decode cX11_feed 18 = .ok (.aload_n 0, 1) := by decide +kernel
theorem dX11_feed_19 : decode cX11_feed 19 = .ok (.getfield 33, 3) := by decide +kernel
theorem dX11_feed_22 : decode cX11_feed 22 = .ok (.iload_n 1, 1) := by decide +kernel
theorem dX11_feed_23 : decode cX11_feed 23 = .ok (.invokevirtual 150, 3) := by decide +kernel
theorem dX11_feed_26 : decode cX11_feed 26 = .ok (.aload_n 0, 1) := by decide +kernel
theorem dX11_feed_27 : decode cX11_feed 27 = .ok (.getfield 33, 3) := by decide +kernel
theorem dX11_feed_30 : decode cX11_feed 30 = .ok (.iload_n 2, 1) := by decide +kernel
theorem dX11_feed_31 : decode cX11_feed 31 = .ok (.invokevirtual 150, 3) := by decide +kernel
theorem dX11_feed_34 : decode cX11_feed 34 = .ok (.aload_n 0, 1) := by decide +kernel
theorem dX11_feed_35 : decode cX11_feed 35 = .ok (.getfield 33, 3) := by decide +kernel
theorem dX11_feed_38 : decode cX11_feed 38 = .ok (.iload_n 3, 1) := by decide +kernel
theorem dX11_feed_39 : decode cX11_feed 39 = .ok (.invokevirtual 150, 3) := by decide +kernel
theorem dX11_feed_42 : decode cX11_feed 42 = .ok (.aload_n 0, 1) := by decide +kernel
theorem dX11_feed_43 : decode cX11_feed 43 = .ok (.getfield 33, 3) := by decide +kernel
theorem dX11_feed_46 : decode cX11_feed 46 = .ok (.iload 4, 2) := by decide +kernel
theorem dX11_feed_48 : decode cX11_feed 48 = .ok (.invokevirtual 150, 3) := by decide +kernel
theorem dX11_feed_51 : decode cX11_feed 51 = .ok (.aload_n 0, 1) := by decide +kernel
theorem dX11_feed_52 : decode cX11_feed 52 = .ok (.getfield 33, 3) := by decide +kernel
theorem dX11_feed_55 : decode cX11_feed 55 = .ok (.iload 5, 2) := by decide +kernel
theorem dX11_feed_57 : decode cX11_feed 57 = .ok (.invokevirtual 150, 3) := by decide +kernel
theorem dX11_feed_60 : decode cX11_feed 60 = .ok (.aload_n 0, 1) := by decide +kernel
theorem dX11_feed_61 : decode cX11_feed 61 = .ok (.getfield 33, 3) := by decide +kernel
theorem dX11_feed_64 : decode cX11_feed 64 = .ok (.getfield 147, 3) := by decide +kernel
theorem dX11_feed_67 : decode cX11_feed 67 = .ok (.ireturn, 1) := by decide +kernel
theorem dX11_end_0 : decode cX11_end 0 = .ok (.iload_n 1, 1) := by decide +kernel
theorem dX11_end_1 : decode cX11_end 1 = .ok (.ifCond .lt 14, 3) := by decide +kernel
theorem dX11_end_4 : decode cX11_end 4 = .ok (.iload_n 1, 1) := by decide +kernel
theorem dX11_end_5 : decode cX11_end 5 = .ok (.aload_n 0, 1) := by decide +kernel
theorem dX11_end_6 : decode cX11_end 6 = .ok (.getfield 33, 3) := by decide +kernel
theorem dX11_end_9 : decode cX11_end 9 = .ok (.getfield 147, 3) := by decide +kernel
theorem dX11_end_12 : decode cX11_end 12 = .ok (.if_icmp .le 5, 3) := by decide +kernel
theorem dX11_end_15 : decode cX11_end 15 = .ok (.iconst 0, 1) := by decide +kernel
theorem dX11_end_16 : decode cX11_end 16 = .ok (.ireturn, 1) := by decide +kernel
theorem dX11_end_17 : decode cX11_end 17 = .ok (.aload_n 0, 1) := by decide +kernel
theorem dX11_end_18 : decode cX11_end 18 = .ok (.getfield 33, 3) := by decide +kernel
theorem dX11_end_21 : decode cX11_end 21 = .ok (.iload_n 1, 1) := by decide +kernel
theorem dX11_end_22 : decode cX11_end 22 = .ok (.putfield 147, 3) := by decide +kernel
theorem dX11_end_25 : decode cX11_end 25 = .ok (.iconst 1, 1) := by decide +kernel
theorem dX11_end_26 : decode cX11_end 26 = .ok (.ireturn, 1) := by decide +kernel
theorem dX11_text_0 : decode cX11_text 0 = .ok (.aload_n 0, 1) := by decide +kernel
theorem dX11_text_1 : decode cX11_text 1 = .ok (.getfield 33, 3) := by decide +kernel
theorem dX11_text_4 : decode cX11_text 4 = .ok (.iload_n 1, 1) := by decide +kernel
theorem dX11_text_5 : decode cX11_text 5 = .ok (.aload_n 0, 1) := by decide +kernel
theorem dX11_text_6 : decode cX11_text 6 = .ok (.getfield 12, 3) := by decide +kernel
theorem dX11_text_9 : decode cX11_text 9 = .ok (.getfield 67, 3) := by decide +kernel
theorem dX11_text_12 : decode cX11_text 12 = .ok (.getfield 99, 3) := by decide +kernel
theorem dX11_text_15 : decode cX11_text 15 = .ok (.invokevirtual 154, 3) := by decide +kernel
theorem dX11_text_18 : decode cX11_text 18 = .ok (.astore_n 2, 1) := by decide +kernel
theorem dX11_text_19 : decode cX11_text 19 = .ok (.aload_n 2, 1) := by decide +kernel
theorem dX11_text_20 : decode cX11_text 20 = .ok (.ifnull 12, 3) := by decide +kernel
theorem dX11_text_23 : decode cX11_text 23 = .ok (.iload_n 1, 1) := by decide +kernel
theorem dX11_text_24 : decode cX11_text 24 = .ok (.ifCond .lt 8, 3) := by decide +kernel
theorem dX11_text_27 : decode cX11_text 27 = .ok (.iload_n 1, 1) := by decide +kernel
theorem dX11_text_28 : decode cX11_text 28 = .ok (.iconst 4, 1) := by decide +kernel
theorem dX11_text_29 : decode cX11_text 29 = .ok (.if_icmp .lt 5, 3) := by decide +kernel
theorem dX11_text_32 : decode cX11_text 32 = .ok (.iconst (-1), 1) := by decide +kernel
theorem dX11_text_33 : decode cX11_text 33 = .ok (.ireturn, 1) := by decide +kernel
theorem dX11_text_34 : decode cX11_text 34 = .ok (.aload_n 0, 1) := by decide +kernel
theorem dX11_text_35 : decode cX11_text 35 = .ok (.getfield 12, 3) := by decide +kernel
theorem dX11_text_38 : decode cX11_text 38 = .ok (.getfield 70, 3) := by decide +kernel
theorem dX11_text_41 : decode cX11_text 41 = .ok (.iload_n 1, 1) := by decide +kernel
theorem dX11_text_42 : decode cX11_text 42 = .ok (.aload_n 2, 1) := by decide +kernel
theorem dX11_text_43 : decode cX11_text 43 = .ok (.aastore, 1) := by decide +kernel
theorem dX11_text_44 : decode cX11_text 44 = .ok (.iload_n 1, 1) := by decide +kernel
theorem dX11_text_45 : decode cX11_text 45 = .ok (.iconst 1, 1) := by decide +kernel
theorem dX11_text_46 : decode cX11_text 46 = .ok (.if_icmp .eq 8, 3) := by decide +kernel
theorem dX11_text_49 : decode cX11_text 49 = .ok (.iload_n 1, 1) := by decide +kernel
theorem dX11_text_50 : decode cX11_text 50 = .ok (.iconst 2, 1) := by decide +kernel
theorem dX11_text_51 : decode cX11_text 51 = .ok (.if_icmp .ne 10, 3) := by decide +kernel
theorem dX11_text_54 : decode cX11_text 54 = .ok (.aload_n 0, 1) := by decide +kernel
theorem dX11_text_55 : decode cX11_text 55 = .ok (.getfield 26, 3) := by decide +kernel
theorem dX11_text_58 : decode cX11_text 58 = .ok (.invokevirtual 92, 3) := by decide +kernel
theorem dX11_text_61 : decode cX11_text 61 = .ok (.aload_n 2, 1) := by decide +kernel
theorem dX11_text_62 : decode cX11_text 62 = .ok (.getfield 158, 3) := by decide +kernel
theorem dX11_text_65 : decode cX11_text 65 = .ok (.ireturn, 1) := by decide +kernel
theorem dX11_fault_0 : decode cX11_fault 0 = .ok (.iload_n 1, 1) := by decide +kernel
theorem dX11_fault_1 : decode cX11_fault 1 = .ok (.ifCond .ne 11, 3) := by decide +kernel
theorem dX11_fault_4 : decode cX11_fault 4 = .ok (.aload_n 0, 1) := by decide +kernel
theorem dX11_fault_5 : decode cX11_fault 5 = .ok (.getfield 33, 3) := by decide +kernel
theorem dX11_fault_8 : decode cX11_fault 8 = .ok (.getfield 163, 3) := by decide +kernel
theorem dX11_fault_11 : decode cX11_fault 11 = .ok (.ireturn, 1) := by decide +kernel
theorem dX11_fault_12 : decode cX11_fault 12 = .ok (.iload_n 1, 1) := by decide +kernel
theorem dX11_fault_13 : decode cX11_fault 13 = .ok (.iconst 1, 1) := by decide +kernel
theorem dX11_fault_14 : decode cX11_fault 14 = .ok (.if_icmp .ne 13, 3) := by decide +kernel
theorem dX11_fault_17 : decode cX11_fault 17 = .ok (.aload_n 0, 1) := by decide +kernel
theorem dX11_fault_18 : decode cX11_fault 18 = .ok (.getfield 33, 3) := by decide +kernel
theorem dX11_fault_21 : decode cX11_fault 21 = .ok (.getfield 166, 3) := by decide +kernel
theorem dX11_fault_24 : decode cX11_fault 24 = .ok (.goto 4, 3) := by decide +kernel
theorem dX11_fault_27 : decode cX11_fault 27 = .ok (.iconst (-1), 1) := by decide +kernel
theorem dX11_fault_28 : decode cX11_fault 28 = .ok (.ireturn, 1) := by decide +kernel
theorem dX11_of_0 : decode cX11_of 0 = .ok (.aload_n 0, 1) := by decide +kernel
theorem dX11_of_1 : decode cX11_of 1 = .ok (.getfield 12, 3) := by decide +kernel
theorem dX11_of_4 : decode cX11_of 4 = .ok (.getfield 67, 3) := by decide +kernel
theorem dX11_of_7 : decode cX11_of 7 = .ok (.iload_n 1, 1) := by decide +kernel
theorem dX11_of_8 : decode cX11_of 8 = .ok (.invokevirtual 109, 3) := by decide +kernel
theorem dX11_of_11 : decode cX11_of 11 = .ok (.ifCond .eq 13, 3) := by decide +kernel
theorem dX11_of_14 : decode cX11_of 14 = .ok (.iload_n 2, 1) := by decide +kernel
theorem dX11_of_15 : decode cX11_of 15 = .ok (.ifCond .lt 9, 3) := by decide +kernel
theorem dX11_of_18 : decode cX11_of 18 = .ok (.iload_n 2, 1) := by decide +kernel
theorem dX11_of_19 : decode cX11_of 19 = .ok (.bipush 7, 2) := by decide +kernel
theorem dX11_of_21 : decode cX11_of 21 = .ok (.if_icmp .le 6, 3) := by decide +kernel
theorem dX11_of_24 : decode cX11_of 24 = .ok (.bipush (-2), 2) := by decide +kernel
theorem dX11_of_26 : decode cX11_of 26 = .ok (.ireturn, 1) := by decide +kernel
theorem dX11_of_27 : decode cX11_of 27 = .ok (.iload_n 2, 1) := by decide +kernel
theorem dX11_of_28 : decode cX11_of 28 = .ok (.bipush 6, 2) := by decide +kernel
theorem dX11_of_30 : decode cX11_of 30 = .ok (.if_icmp .ne 12, 3) := by decide +kernel
theorem dX11_of_33 : decode cX11_of 33 = .ok (.aload_n 0, 1) := by decide +kernel
theorem dX11_of_34 : decode cX11_of 34 = .ok (.getfield 81, 3) := by decide +kernel
theorem dX11_of_37 : decode cX11_of 37 = .ok (.iload_n 1, 1) := by decide +kernel
theorem dX11_of_38 : decode cX11_of 38 = .ok (.invokevirtual 169, 3) := by decide +kernel
theorem dX11_of_41 : decode cX11_of 41 = .ok (.ireturn, 1) := by decide +kernel
theorem dX11_of_42 : decode cX11_of 42 = .ok (.iload_n 2, 1) := by decide +kernel
theorem dX11_of_43 : decode cX11_of 43 = .ok (.bipush 7, 2) := by decide +kernel
theorem dX11_of_45 : decode cX11_of 45 = .ok (.if_icmp .ne 14, 3) := by decide +kernel
theorem dX11_of_48 : decode cX11_of 48 = .ok (.aload_n 0, 1) := by decide +kernel
theorem dX11_of_49 : decode cX11_of 49 = .ok (.getfield 12, 3) := by decide +kernel
theorem dX11_of_52 : decode cX11_of 52 = .ok (.iload_n 1, 1) := by decide +kernel
theorem dX11_of_53 : decode cX11_of 53 = .ok (.invokevirtual 173, 3) := by decide +kernel
theorem dX11_of_56 : decode cX11_of 56 = .ok (.goto 15, 3) := by decide +kernel
theorem dX11_of_59 : decode cX11_of 59 = .ok (.aload_n 0, 1) := by decide +kernel
theorem dX11_of_60 : decode cX11_of 60 = .ok (.getfield 12, 3) := by decide +kernel
theorem dX11_of_63 : decode cX11_of 63 = .ok (.getfield 67, 3) := by decide +kernel
theorem dX11_of_66 : decode cX11_of 66 = .ok (.iload_n 1, 1) := by decide +kernel
theorem dX11_of_67 : decode cX11_of 67 = .ok (.iload_n 2, 1) := by decide +kernel
theorem dX11_of_68 : decode cX11_of 68 = .ok (.invokevirtual 134, 3) := by decide +kernel
theorem dX11_of_71 : decode cX11_of 71 = .ok (.ireturn, 1) := by decide +kernel
theorem dX11_cell_0 : decode cX11_cell 0 = .ok (.iload_n 1, 1) := by decide +kernel
theorem dX11_cell_1 : decode cX11_cell 1 = .ok (.iload_n 2, 1) := by decide +kernel
theorem dX11_cell_2 : decode cX11_cell 2 = .ok (.invokestatic 124, 3) := by decide +kernel
theorem dX11_cell_5 : decode cX11_cell 5 = .ok (.istore 4, 2) := by decide +kernel
theorem dX11_cell_7 : decode cX11_cell 7 = .ok (.iload 4, 2) := by decide +kernel
theorem dX11_cell_9 : decode cX11_cell 9 = .ok (.iconst (-1), 1) := by decide +kernel
theorem dX11_cell_10 : decode cX11_cell 10 = .ok (.if_icmp .eq 12, 3) := by decide +kernel
theorem dX11_cell_13 : decode cX11_cell 13 = .ok (.iload_n 3, 1) := by decide +kernel
theorem dX11_cell_14 : decode cX11_cell 14 = .ok (.ifCond .lt 8, 3) := by decide +kernel
theorem dX11_cell_17 : decode cX11_cell 17 = .ok (.iload_n 3, 1) := by decide +kernel
theorem dX11_cell_18 : decode cX11_cell 18 = .ok (.iconst 4, 1) := by decide +kernel
theorem dX11_cell_19 : decode cX11_cell 19 = .ok (.if_icmp .le 6, 3) := by decide +kernel
theorem dX11_cell_22 : decode cX11_cell 22 = .ok (.bipush (-2), 2) := by decide +kernel
theorem dX11_cell_24 : decode cX11_cell 24 = .ok (.ireturn, 1) := by decide +kernel
theorem dX11_cell_25 : decode cX11_cell 25 = .ok (.aload_n 0, 1) := by decide +kernel
theorem dX11_cell_26 : decode cX11_cell 26 = .ok (.getfield 12, 3) := by decide +kernel
theorem dX11_cell_29 : decode cX11_cell 29 = .ok (.getfield 67, 3) := by decide +kernel
theorem dX11_cell_32 : decode cX11_cell 32 = .ok (.iload 4, 2) := by decide +kernel
theorem dX11_cell_34 : decode cX11_cell 34 = .ok (.invokevirtual 127, 3) := by decide +kernel
theorem dX11_cell_37 : decode cX11_cell 37 = .ok (.ifCond .ne 7, 3) := by decide +kernel
theorem dX11_cell_40 : decode cX11_cell 40 = .ok (.iconst 1, 1) := by decide +kernel
theorem dX11_cell_41 : decode cX11_cell 41 = .ok (.goto 4, 3) := by decide +kernel
theorem dX11_cell_44 : decode cX11_cell 44 = .ok (.iconst 0, 1) := by decide +kernel
theorem dX11_cell_45 : decode cX11_cell 45 = .ok (.istore 5, 2) := by decide +kernel
theorem dX11_cell_47 : decode cX11_cell 47 = .ok (.iload_n 3, 1) := by decide +kernel
theorem dX11_cell_48 : decode cX11_cell 48 = .ok (.tableswitch 90 0 3 #[32, 45, 58, 71], 32) := by decide +kernel
theorem dX11_cell_80 : decode cX11_cell 80 = .ok (.aload_n 0, 1) := by decide +kernel
theorem dX11_cell_81 : decode cX11_cell 81 = .ok (.getfield 12, 3) := by decide +kernel
theorem dX11_cell_84 : decode cX11_cell 84 = .ok (.getfield 67, 3) := by decide +kernel
theorem dX11_cell_87 : decode cX11_cell 87 = .ok (.iload 4, 2) := by decide +kernel
theorem dX11_cell_89 : decode cX11_cell 89 = .ok (.invokevirtual 176, 3) := by decide +kernel
theorem dX11_cell_92 : decode cX11_cell 92 = .ok (.ireturn, 1) := by decide +kernel
theorem dX11_cell_93 : decode cX11_cell 93 = .ok (.aload_n 0, 1) := by decide +kernel
theorem dX11_cell_94 : decode cX11_cell 94 = .ok (.getfield 12, 3) := by decide +kernel
theorem dX11_cell_97 : decode cX11_cell 97 = .ok (.getfield 67, 3) := by decide +kernel
theorem dX11_cell_100 : decode cX11_cell 100 = .ok (.iload 4, 2) := by decide +kernel
theorem dX11_cell_102 : decode cX11_cell 102 = .ok (.invokevirtual 179, 3) := by decide +kernel
theorem dX11_cell_105 : decode cX11_cell 105 = .ok (.ireturn, 1) := by decide +kernel
theorem dX11_cell_106 : decode cX11_cell 106 = .ok (.aload_n 0, 1) := by decide +kernel
theorem dX11_cell_107 : decode cX11_cell 107 = .ok (.getfield 12, 3) := by decide +kernel
theorem dX11_cell_110 : decode cX11_cell 110 = .ok (.getfield 67, 3) := by decide +kernel
theorem dX11_cell_113 : decode cX11_cell 113 = .ok (.iload 4, 2) := by decide +kernel
theorem dX11_cell_115 : decode cX11_cell 115 = .ok (.invokevirtual 182, 3) := by decide +kernel
theorem dX11_cell_118 : decode cX11_cell 118 = .ok (.ireturn, 1) := by decide +kernel
theorem dX11_cell_119 : decode cX11_cell 119 = .ok (.iload 5, 2) := by decide +kernel
theorem dX11_cell_121 : decode cX11_cell 121 = .ok (.ifCond .eq 7, 3) := by decide +kernel
theorem dX11_cell_124 : decode cX11_cell 124 = .ok (.iconst (-1), 1) := by decide +kernel
theorem dX11_cell_125 : decode cX11_cell 125 = .ok (.goto 12, 3) := by decide +kernel
theorem dX11_cell_128 : decode cX11_cell 128 = .ok (.aload_n 0, 1) := by decide +kernel
theorem dX11_cell_129 : decode cX11_cell 129 = .ok (.getfield 81, 3) := by decide +kernel
theorem dX11_cell_132 : decode cX11_cell 132 = .ok (.iload 4, 2) := by decide +kernel
theorem dX11_cell_134 : decode cX11_cell 134 = .ok (.invokevirtual 185, 3) := by decide +kernel
theorem dX11_cell_137 : decode cX11_cell 137 = .ok (.ireturn, 1) := by decide +kernel
theorem dX11_cell_138 : decode cX11_cell 138 = .ok (.iload 5, 2) := by decide +kernel
theorem dX11_cell_140 : decode cX11_cell 140 = .ok (.ifCond .eq 7, 3) := by decide +kernel
theorem dX11_cell_143 : decode cX11_cell 143 = .ok (.iconst (-1), 1) := by decide +kernel
theorem dX11_cell_144 : decode cX11_cell 144 = .ok (.goto 12, 3) := by decide +kernel
theorem dX11_cell_147 : decode cX11_cell 147 = .ok (.aload_n 0, 1) := by decide +kernel
theorem dX11_cell_148 : decode cX11_cell 148 = .ok (.getfield 81, 3) := by decide +kernel
theorem dX11_cell_151 : decode cX11_cell 151 = .ok (.iload 4, 2) := by decide +kernel
theorem dX11_cell_153 : decode cX11_cell 153 = .ok (.invokevirtual 188, 3) := by decide +kernel
theorem dX11_cell_156 : decode cX11_cell 156 = .ok (.ireturn, 1) := by decide +kernel
theorem dX11_book_0 : decode cX11_book 0 = .ok (.iload_n 1, 1) := by decide +kernel
theorem dX11_book_1 : decode cX11_book 1 = .ok (.ifCond .lt 26, 3) := by decide +kernel
theorem dX11_book_4 : decode cX11_book 4 = .ok (.iload_n 1, 1) := by decide +kernel
theorem dX11_book_5 : decode cX11_book 5 = .ok (.aload_n 0, 1) := by decide +kernel
theorem dX11_book_6 : decode cX11_book 6 = .ok (.getfield 12, 3) := by decide +kernel
theorem dX11_book_9 : decode cX11_book 9 = .ok (.getfield 67, 3) := by decide +kernel
theorem dX11_book_12 : decode cX11_book 12 = .ok (.getfield 191, 3) := by decide +kernel
theorem dX11_book_15 : decode cX11_book 15 = .ok (.if_icmp .ge 12, 3) := by decide +kernel
theorem dX11_book_18 : decode cX11_book 18 = .ok (.iload_n 2, 1) := by decide +kernel
theorem dX11_book_19 : decode cX11_book 19 = .ok (.ifCond .lt 8, 3) := by decide +kernel
theorem dX11_book_22 : decode cX11_book 22 = .ok (.iload_n 2, 1) := by decide +kernel
theorem dX11_book_23 : decode cX11_book 23 = .ok (.iconst 5, 1) := by decide +kernel
theorem dX11_book_24 : decode cX11_book 24 = .ok (.if_icmp .lt 7, 3) := by decide +kernel
theorem dX11_book_27 : decode cX11_book 27 = .ok (.sipush (-10000), 3) := by decide +kernel
theorem dX11_book_30 : decode cX11_book 30 = .ok (.ireturn, 1) := by decide +kernel
theorem dX11_book_31 : decode cX11_book 31 = .ok (.aload_n 0, 1) := by decide +kernel
theorem dX11_book_32 : decode cX11_book 32 = .ok (.getfield 12, 3) := by decide +kernel
theorem dX11_book_35 : decode cX11_book 35 = .ok (.getfield 74, 3) := by decide +kernel
theorem dX11_book_38 : decode cX11_book 38 = .ok (.iload_n 1, 1) := by decide +kernel
theorem dX11_book_39 : decode cX11_book 39 = .ok (.iload_n 2, 1) := by decide +kernel
theorem dX11_book_40 : decode cX11_book 40 = .ok (.invokevirtual 192, 3) := by decide +kernel
theorem dX11_book_43 : decode cX11_book 43 = .ok (.ireturn, 1) := by decide +kernel
theorem dX11_goes_0 : decode cX11_goes 0 = .ok (.iload_n 1, 1) := by decide +kernel
theorem dX11_goes_1 : decode cX11_goes 1 = .ok (.iconst 1, 1) := by decide +kernel
theorem dX11_goes_2 : decode cX11_goes 2 = .ok (.if_icmp .lt 18, 3) := by decide +kernel
theorem dX11_goes_5 : decode cX11_goes 5 = .ok (.iload_n 1, 1) := by decide +kernel
theorem dX11_goes_6 : decode cX11_goes 6 = .ok (.bipush 60, 2) := by decide +kernel
theorem dX11_goes_8 : decode cX11_goes 8 = .ok (.if_icmp .gt 12, 3) := by decide +kernel
theorem dX11_goes_11 : decode cX11_goes 11 = .ok (.iload_n 2, 1) := by decide +kernel
theorem dX11_goes_12 : decode cX11_goes 12 = .ok (.ifCond .lt 8, 3) := by decide +kernel
theorem dX11_goes_15 : decode cX11_goes 15 = .ok (.iload_n 2, 1) := by decide +kernel
theorem dX11_goes_16 : decode cX11_goes 16 = .ok (.iconst 3, 1) := by decide +kernel
theorem dX11_goes_17 : decode cX11_goes 17 = .ok (.if_icmp .le 6, 3) := by decide +kernel
theorem dX11_goes_20 : decode cX11_goes 20 = .ok (.ldc 197, 2) := by decide +kernel
theorem dX11_goes_22 : decode cX11_goes 22 = .ok (.ireturn, 1) := by decide +kernel
theorem dX11_goes_23 : decode cX11_goes 23 = .ok (.aload_n 0, 1) := by decide +kernel
theorem dX11_goes_24 : decode cX11_goes 24 = .ok (.getfield 40, 3) := by decide +kernel
theorem dX11_goes_27 : decode cX11_goes 27 = .ok (.aload_n 0, 1) := by decide +kernel
theorem dX11_goes_28 : decode cX11_goes 28 = .ok (.getfield 12, 3) := by decide +kernel
theorem dX11_goes_31 : decode cX11_goes 31 = .ok (.getfield 67, 3) := by decide +kernel
theorem dX11_goes_34 : decode cX11_goes 34 = .ok (.invokevirtual 198, 3) := by decide +kernel
theorem dX11_goes_37 : decode cX11_goes 37 = .ok (.iconst 0, 1) := by decide +kernel
theorem dX11_goes_38 : decode cX11_goes 38 = .ok (.istore_n 3, 1) := by decide +kernel
theorem dX11_goes_39 : decode cX11_goes 39 = .ok (.iload_n 3, 1) := by decide +kernel
theorem dX11_goes_40 : decode cX11_goes 40 = .ok (.iload_n 1, 1) := by decide +kernel
theorem dX11_goes_41 : decode cX11_goes 41 = .ok (.if_icmp .ge 17, 3) := by decide +kernel
theorem dX11_goes_44 : decode cX11_goes 44 = .ok (.aload_n 0, 1) := by decide +kernel
theorem dX11_goes_45 : decode cX11_goes 45 = .ok (.getfield 85, 3) := by decide +kernel
theorem dX11_goes_48 : decode cX11_goes 48 = .ok (.invokevirtual 143, 3) := by decide +kernel
theorem dX11_goes_51 : decode cX11_goes 51 = .ok (.pop, 1) := by decide +kernel
theorem dX11_goes_52 : decode cX11_goes 52 = .ok (.iinc 3 1, 3) := by decide +kernel
theorem dX11_goes_55 : decode cX11_goes 55 = .ok (.goto (-16), 3) := by decide +kernel
theorem dX11_goes_58 : decode cX11_goes 58 = .ok (.iload_n 2, 1) := by decide +kernel
theorem dX11_goes_59 : decode cX11_goes 59 = .ok (.tableswitch 49 0 2 #[25, 33, 41], 25) := by decide +kernel
theorem dX11_goes_84 : decode cX11_goes 84 = .ok (.aload_n 0, 1) := by decide +kernel
theorem dX11_goes_85 : decode cX11_goes 85 = .ok (.getfield 40, 3) := by decide +kernel
theorem dX11_goes_88 : decode cX11_goes 88 = .ok (.getfield 201, 3) := by decide +kernel
theorem dX11_goes_91 : decode cX11_goes 91 = .ok (.ireturn, 1) := by decide +kernel
theorem dX11_goes_92 : decode cX11_goes 92 = .ok (.aload_n 0, 1) := by decide +kernel
theorem dX11_goes_93 : decode cX11_goes 93 = .ok (.getfield 40, 3) := by decide +kernel
theorem dX11_goes_96 : decode cX11_goes 96 = .ok (.invokevirtual 204, 3) := by decide +kernel
theorem dX11_goes_99 : decode cX11_goes 99 = .ok (.ireturn, 1) := by decide +kernel
theorem dX11_goes_100 : decode cX11_goes 100 = .ok (.aload_n 0, 1) := by decide +kernel
theorem dX11_goes_101 : decode cX11_goes 101 = .ok (.getfield 85, 3) := by decide +kernel
theorem dX11_goes_104 : decode cX11_goes 104 = .ok (.invokevirtual 207, 3) := by decide +kernel
theorem dX11_goes_107 : decode cX11_goes 107 = .ok (.ireturn, 1) := by decide +kernel
theorem dX11_goes_108 : decode cX11_goes 108 = .ok (.aload_n 0, 1) := by decide +kernel
theorem dX11_goes_109 : decode cX11_goes 109 = .ok (.getfield 40, 3) := by decide +kernel
theorem dX11_goes_112 : decode cX11_goes 112 = .ok (.invokevirtual 210, 3) := by decide +kernel
theorem dX11_goes_115 : decode cX11_goes 115 = .ok (.ireturn, 1) := by decide +kernel
theorem dX11_wax_0 : decode cX11_wax 0 = .ok (.iload_n 1, 1) := by decide +kernel
theorem dX11_wax_1 : decode cX11_wax 1 = .ok (.tableswitch 173 0 9 #[55, 63, 71, 86, 101, 116, 139, 154, 154, 154], 55) := by decide +kernel
theorem dX11_wax_56 : decode cX11_wax 56 = .ok (.aload_n 0, 1) := by decide +kernel
theorem dX11_wax_57 : decode cX11_wax 57 = .ok (.getfield 81, 3) := by decide +kernel
theorem dX11_wax_60 : decode cX11_wax 60 = .ok (.invokevirtual 207, 3) := by decide +kernel
theorem dX11_wax_63 : decode cX11_wax 63 = .ok (.ireturn, 1) := by decide +kernel
theorem dX11_wax_64 : decode cX11_wax 64 = .ok (.aload_n 0, 1) := by decide +kernel
theorem dX11_wax_65 : decode cX11_wax 65 = .ok (.getfield 81, 3) := by decide +kernel
theorem dX11_wax_68 : decode cX11_wax 68 = .ok (.invokevirtual 213, 3) := by decide +kernel
theorem dX11_wax_71 : decode cX11_wax 71 = .ok (.ireturn, 1) := by decide +kernel
theorem dX11_wax_72 : decode cX11_wax 72 = .ok (.aload_n 0, 1) := by decide +kernel
theorem dX11_wax_73 : decode cX11_wax 73 = .ok (.getfield 47, 3) := by decide +kernel
theorem dX11_wax_76 : decode cX11_wax 76 = .ok (.aload_n 0, 1) := by decide +kernel
theorem dX11_wax_77 : decode cX11_wax 77 = .ok (.getfield 12, 3) := by decide +kernel
theorem dX11_wax_80 : decode cX11_wax 80 = .ok (.getfield 67, 3) := by decide +kernel
theorem dX11_wax_83 : decode cX11_wax 83 = .ok (.invokevirtual 216, 3) := by decide +kernel
theorem dX11_wax_86 : decode cX11_wax 86 = .ok (.ireturn, 1) := by decide +kernel
theorem dX11_wax_87 : decode cX11_wax 87 = .ok (.aload_n 0, 1) := by decide +kernel
theorem dX11_wax_88 : decode cX11_wax 88 = .ok (.getfield 47, 3) := by decide +kernel
theorem dX11_wax_91 : decode cX11_wax 91 = .ok (.aload_n 0, 1) := by decide +kernel
theorem dX11_wax_92 : decode cX11_wax 92 = .ok (.getfield 12, 3) := by decide +kernel
theorem dX11_wax_95 : decode cX11_wax 95 = .ok (.getfield 67, 3) := by decide +kernel
theorem dX11_wax_98 : decode cX11_wax 98 = .ok (.invokevirtual 220, 3) := by decide +kernel
theorem dX11_wax_101 : decode cX11_wax 101 = .ok (.ireturn, 1) := by decide +kernel
theorem dX11_wax_102 : decode cX11_wax 102 = .ok (.aload_n 0, 1) := by decide +kernel
theorem dX11_wax_103 : decode cX11_wax 103 = .ok (.getfield 47, 3) := by decide +kernel
theorem dX11_wax_106 : decode cX11_wax 106 = .ok (.aload_n 0, 1) := by decide +kernel
theorem dX11_wax_107 : decode cX11_wax 107 = .ok (.getfield 12, 3) := by decide +kernel
theorem dX11_wax_110 : decode cX11_wax 110 = .ok (.getfield 67, 3) := by decide +kernel
theorem dX11_wax_113 : decode cX11_wax 113 = .ok (.invokevirtual 223, 3) := by decide +kernel
theorem dX11_wax_116 : decode cX11_wax 116 = .ok (.ireturn, 1) := by decide +kernel
theorem dX11_wax_117 : decode cX11_wax 117 = .ok (.aload_n 0, 1) := by decide +kernel
theorem dX11_wax_118 : decode cX11_wax 118 = .ok (.getfield 47, 3) := by decide +kernel
theorem dX11_wax_121 : decode cX11_wax 121 = .ok (.aload_n 0, 1) := by decide +kernel
theorem dX11_wax_122 : decode cX11_wax 122 = .ok (.getfield 12, 3) := by decide +kernel
theorem dX11_wax_125 : decode cX11_wax 125 = .ok (.getfield 67, 3) := by decide +kernel
theorem dX11_wax_128 : decode cX11_wax 128 = .ok (.invokevirtual 226, 3) := by decide +kernel
theorem dX11_wax_131 : decode cX11_wax 131 = .ok (.ifCond .ne 7, 3) := by decide +kernel
theorem dX11_wax_134 : decode cX11_wax 134 = .ok (.iconst 1, 1) := by decide +kernel
theorem dX11_wax_135 : decode cX11_wax 135 = .ok (.goto 4, 3) := by decide +kernel
theorem dX11_wax_138 : decode cX11_wax 138 = .ok (.iconst 0, 1) := by decide +kernel
theorem dX11_wax_139 : decode cX11_wax 139 = .ok (.ireturn, 1) := by decide +kernel
theorem dX11_wax_140 : decode cX11_wax 140 = .ok (.aload_n 0, 1) := by decide +kernel
theorem dX11_wax_141 : decode cX11_wax 141 = .ok (.getfield 47, 3) := by decide +kernel
theorem dX11_wax_144 : decode cX11_wax 144 = .ok (.aload_n 0, 1) := by decide +kernel
theorem dX11_wax_145 : decode cX11_wax 145 = .ok (.getfield 12, 3) := by decide +kernel
theorem dX11_wax_148 : decode cX11_wax 148 = .ok (.getfield 67, 3) := by decide +kernel
theorem dX11_wax_151 : decode cX11_wax 151 = .ok (.invokevirtual 226, 3) := by decide +kernel
theorem dX11_wax_154 : decode cX11_wax 154 = .ok (.ireturn, 1) := by decide +kernel
theorem dX11_wax_155 : decode cX11_wax 155 = .ok (.aload_n 0, 1) := by decide +kernel
theorem dX11_wax_156 : decode cX11_wax 156 = .ok (.getfield 47, 3) := by decide +kernel
theorem dX11_wax_159 : decode cX11_wax 159 = .ok (.aload_n 0, 1) := by decide +kernel
theorem dX11_wax_160 : decode cX11_wax 160 = .ok (.getfield 12, 3) := by decide +kernel
theorem dX11_wax_163 : decode cX11_wax 163 = .ok (.getfield 67, 3) := by decide +kernel
theorem dX11_wax_166 : decode cX11_wax 166 = .ok (.iload_n 1, 1) := by decide +kernel
theorem dX11_wax_167 : decode cX11_wax 167 = .ok (.bipush 7, 2) := by decide +kernel
theorem dX11_wax_169 : decode cX11_wax 169 = .ok (.isub, 1) := by decide +kernel
theorem dX11_wax_170 : decode cX11_wax 170 = .ok (.invokevirtual 229, 3) := by decide +kernel
theorem dX11_wax_173 : decode cX11_wax 173 = .ok (.ireturn, 1) := by decide +kernel
theorem dX11_wax_174 : decode cX11_wax 174 = .ok (.ldc 197, 2) := by decide +kernel
theorem dX11_wax_176 : decode cX11_wax 176 = .ok (.ireturn, 1) := by decide +kernel
theorem dX11_whose_0 : decode cX11_whose 0 = .ok (.iload_n 1, 1) := by decide +kernel
theorem dX11_whose_1 : decode cX11_whose 1 = .ok (.ifCond .lt 21, 3) := by decide +kernel
theorem dX11_whose_4 : decode cX11_whose 4 = .ok (.iload_n 1, 1) := by decide +kernel
theorem dX11_whose_5 : decode cX11_whose 5 = .ok (.sipush 255, 3) := by decide +kernel
theorem dX11_whose_8 : decode cX11_whose 8 = .ok (.if_icmp .gt 14, 3) := by decide +kernel
theorem dX11_whose_11 : decode cX11_whose 11 = .ok (.iload_n 2, 1) := by decide +kernel
theorem dX11_whose_12 : decode cX11_whose 12 = .ok (.iconst (-1), 1) := by decide +kernel
theorem dX11_whose_13 : decode cX11_whose 13 = .ok (.if_icmp .lt 9, 3) := by decide +kernel
theorem dX11_whose_16 : decode cX11_whose 16 = .ok (.iload_n 2, 1) := by decide +kernel
theorem dX11_whose_17 : decode cX11_whose 17 = .ok (.bipush 8, 2) := by decide +kernel
theorem dX11_whose_19 : decode cX11_whose 19 = .ok (.if_icmp .le 5, 3) := by decide +kernel
theorem dX11_whose_22 : decode cX11_whose 22 = .ok (.iconst (-1), 1) := by decide +kernel
theorem dX11_whose_23 : decode cX11_whose 23 = .ok (.ireturn, 1) := by decide +kernel
theorem dX11_whose_24 : decode cX11_whose 24 = .ok (.iload_n 2, 1) := by decide +kernel
theorem dX11_whose_25 : decode cX11_whose 25 = .ok (.iconst (-1), 1) := by decide +kernel
theorem dX11_whose_26 : decode cX11_whose 26 = .ok (.if_icmp .ne 17, 3) := by decide +kernel
theorem dX11_whose_29 : decode cX11_whose 29 = .ok (.aload_n 0, 1) := by decide +kernel
theorem dX11_whose_30 : decode cX11_whose 30 = .ok (.getfield 12, 3) := by decide +kernel
theorem dX11_whose_33 : decode cX11_whose 33 = .ok (.getfield 67, 3) := by decide +kernel
theorem dX11_whose_36 : decode cX11_whose 36 = .ok (.iload_n 1, 1) := by decide +kernel
theorem dX11_whose_37 : decode cX11_whose 37 = .ok (.invokevirtual 233, 3) := by decide +kernel
theorem dX11_whose_40 : decode cX11_whose 40 = .ok (.goto 15, 3) := by decide +kernel
theorem dX11_whose_43 : decode cX11_whose 43 = .ok (.aload_n 0, 1) := by decide +kernel
theorem dX11_whose_44 : decode cX11_whose 44 = .ok (.getfield 12, 3) := by decide +kernel
theorem dX11_whose_47 : decode cX11_whose 47 = .ok (.getfield 67, 3) := by decide +kernel
theorem dX11_whose_50 : decode cX11_whose 50 = .ok (.iload_n 1, 1) := by decide +kernel
theorem dX11_whose_51 : decode cX11_whose 51 = .ok (.iload_n 2, 1) := by decide +kernel
theorem dX11_whose_52 : decode cX11_whose 52 = .ok (.invokevirtual 236, 3) := by decide +kernel
theorem dX11_whose_55 : decode cX11_whose 55 = .ok (.ireturn, 1) := by decide +kernel
theorem dX11_could_0 : decode cX11_could 0 = .ok (.aload_n 0, 1) := by decide +kernel
theorem dX11_could_1 : decode cX11_could 1 = .ok (.getfield 12, 3) := by decide +kernel
theorem dX11_could_4 : decode cX11_could 4 = .ok (.getfield 67, 3) := by decide +kernel
theorem dX11_could_7 : decode cX11_could 7 = .ok (.iload_n 1, 1) := by decide +kernel
theorem dX11_could_8 : decode cX11_could 8 = .ok (.invokevirtual 109, 3) := by decide +kernel
theorem dX11_could_11 : decode cX11_could 11 = .ok (.ifCond .eq 14, 3) := by decide +kernel
theorem dX11_could_14 : decode cX11_could 14 = .ok (.aload_n 0, 1) := by decide +kernel
theorem dX11_could_15 : decode cX11_could 15 = .ok (.getfield 12, 3) := by decide +kernel
theorem dX11_could_18 : decode cX11_could 18 = .ok (.iload_n 1, 1) := by decide +kernel
theorem dX11_could_19 : decode cX11_could 19 = .ok (.invokevirtual 239, 3) := by decide +kernel
theorem dX11_could_22 : decode cX11_could 22 = .ok (.goto 4, 3) := by decide +kernel
theorem dX11_could_25 : decode cX11_could 25 = .ok (.iconst (-1), 1) := by decide +kernel
theorem dX11_could_26 : decode cX11_could 26 = .ok (.ireturn, 1) := by decide +kernel
theorem dX11_party_0 : decode cX11_party 0 = .ok (.aload_n 0, 1) := by decide +kernel
theorem dX11_party_1 : decode cX11_party 1 = .ok (.getfield 12, 3) := by decide +kernel
theorem dX11_party_4 : decode cX11_party 4 = .ok (.iconst 0, 1) := by decide +kernel
theorem dX11_party_5 : decode cX11_party 5 = .ok (.iload_n 1, 1) := by decide +kernel
theorem dX11_party_6 : decode cX11_party 6 = .ok (.iconst (-1), 1) := by decide +kernel
theorem dX11_party_7 : decode cX11_party 7 = .ok (.if_icmp .ne 7, 3) := by decide +kernel
theorem dX11_party_10 : decode cX11_party 10 = .ok (.iconst 1, 1) := by decide +kernel
theorem dX11_party_11 : decode cX11_party 11 = .ok (.goto 4, 3) := by decide +kernel
theorem dX11_party_14 : decode cX11_party 14 = .ok (.iconst 0, 1) := by decide +kernel
theorem dX11_party_15 : decode cX11_party 15 = .ok (.iload_n 1, 1) := by decide +kernel
theorem dX11_party_16 : decode cX11_party 16 = .ok (.ifCond .lt 14, 3) := by decide +kernel
theorem dX11_party_19 : decode cX11_party 19 = .ok (.iload_n 1, 1) := by decide +kernel
theorem dX11_party_20 : decode cX11_party 20 = .ok (.sipush 999, 3) := by decide +kernel
theorem dX11_party_23 : decode cX11_party 23 = .ok (.if_icmp .gt 7, 3) := by decide +kernel
theorem dX11_party_26 : decode cX11_party 26 = .ok (.iconst 1, 1) := by decide +kernel
theorem dX11_party_27 : decode cX11_party 27 = .ok (.goto 4, 3) := by decide +kernel
theorem dX11_party_30 : decode cX11_party 30 = .ok (.iconst 0, 1) := by decide +kernel
theorem dX11_party_31 : decode cX11_party 31 = .ok (.iload_n 1, 1) := by decide +kernel
theorem dX11_party_32 : decode cX11_party 32 = .ok (.invokevirtual 242, 3) := by decide +kernel
theorem dX11_party_35 : decode cX11_party 35 = .ok (.ireturn, 1) := by decide +kernel
theorem dX11_seats_0 : decode cX11_seats 0 = .ok (.aload_n 0, 1) := by decide +kernel
theorem dX11_seats_1 : decode cX11_seats 1 = .ok (.getfield 12, 3) := by decide +kernel
theorem dX11_seats_4 : decode cX11_seats 4 = .ok (.getfield 246, 3) := by decide +kernel
theorem dX11_seats_7 : decode cX11_seats 7 = .ok (.iconst 0, 1) := by decide +kernel
theorem dX11_seats_8 : decode cX11_seats 8 = .ok (.aaload, 1) := by decide +kernel
theorem dX11_seats_9 : decode cX11_seats 9 = .ok (.astore 4, 2) := by decide +kernel
theorem dX11_seats_11 : decode cX11_seats 11 = .ok (.iload_n 1, 1) := by decide +kernel
theorem dX11_seats_12 : decode cX11_seats 12 = .ok (.iconst 1, 1) := by decide +kernel
theorem dX11_seats_13 : decode cX11_seats 13 = .ok (.if_icmp .lt 31, 3) := by decide +kernel
theorem dX11_seats_16 : decode cX11_seats 16 = .ok (.iload_n 1, 1) := by decide +kernel
theorem dX11_seats_17 : decode cX11_seats 17 = .ok (.bipush 40, 2) := by decide +kernel
theorem dX11_seats_19 : decode cX11_seats 19 = .ok (.if_icmp .gt 25, 3) := by decide +kernel
theorem dX11_seats_22 : decode cX11_seats 22 = .ok (.iload_n 2, 1) := by decide +kernel
theorem dX11_seats_23 : decode cX11_seats 23 = .ok (.ifCond .lt 21, 3) := by decide +kernel
theorem dX11_seats_26 : decode cX11_seats 26 = .ok (.iload_n 2, 1) := by decide +kernel
theorem dX11_seats_27 : decode cX11_seats 27 = .ok (.iconst 1, 1) := by decide +kernel
theorem dX11_seats_28 : decode cX11_seats 28 = .ok (.if_icmp .gt 16, 3) := by decide +kernel
theorem dX11_seats_31 : decode cX11_seats 31 = .ok (.iload_n 3, 1) := by decide +kernel
theorem dX11_seats_32 : decode cX11_seats 32 = .ok (.ifCond .lt 12, 3) := by decide +kernel
theorem dX11_seats_35 : decode cX11_seats 35 = .ok (.iload_n 3, 1) := by decide +kernel
theorem dX11_seats_36 : decode cX11_seats 36 = .ok (.aload 4, 2) := by decide +kernel
theorem dX11_seats_38 : decode cX11_seats 38 = .ok (.getfield 250, 3) := by decide +kernel
theorem dX11_seats_41 : decode cX11_seats 41 = .ok (.if_icmp .lt 5, 3) := by decide +kernel
theorem dX11_seats_44 : decode cX11_seats 44 = .ok (.iconst (-1), 1) := by decide +kernel
theorem dX11_seats_45 : decode cX11_seats 45 = .ok (.ireturn, 1) := by decide +kernel
theorem dX11_seats_46 : decode cX11_seats 46 = .ok (.aload_n 0, 1) := by decide +kernel
theorem dX11_seats_47 : decode cX11_seats 47 = .ok (.getfield 54, 3) := by decide +kernel
theorem dX11_seats_50 : decode cX11_seats 50 = .ok (.aload 4, 2) := by decide +kernel
theorem dX11_seats_52 : decode cX11_seats 52 = .ok (.iload_n 1, 1) := by decide +kernel
theorem dX11_seats_53 : decode cX11_seats 53 = .ok (.iload_n 2, 1) := by decide +kernel
theorem dX11_seats_54 : decode cX11_seats 54 = .ok (.iload_n 3, 1) := by decide +kernel
theorem dX11_seats_55 : decode cX11_seats 55 = .ok (.invokevirtual 255, 3) := by decide +kernel
theorem dX11_seats_58 : decode cX11_seats 58 = .ok (.ireturn, 1) := by decide +kernel
theorem dX11_house_0 : decode cX11_house 0 = .ok (.aload_n 0, 1) := by decide +kernel
theorem dX11_house_1 : decode cX11_house 1 = .ok (.getfield 12, 3) := by decide +kernel
theorem dX11_house_4 : decode cX11_house 4 = .ok (.iconst 1, 1) := by decide +kernel
theorem dX11_house_5 : decode cX11_house 5 = .ok (.iload_n 1, 1) := by decide +kernel
theorem dX11_house_6 : decode cX11_house 6 = .ok (.iconst (-1), 1) := by decide +kernel
theorem dX11_house_7 : decode cX11_house 7 = .ok (.if_icmp .ne 7, 3) := by decide +kernel
theorem dX11_house_10 : decode cX11_house 10 = .ok (.iconst 1, 1) := by decide +kernel
theorem dX11_house_11 : decode cX11_house 11 = .ok (.goto 4, 3) := by decide +kernel
theorem dX11_house_14 : decode cX11_house 14 = .ok (.iconst 0, 1) := by decide +kernel
theorem dX11_house_15 : decode cX11_house 15 = .ok (.iload_n 1, 1) := by decide +kernel
theorem dX11_house_16 : decode cX11_house 16 = .ok (.ifCond .eq 8, 3) := by decide +kernel
theorem dX11_house_19 : decode cX11_house 19 = .ok (.iload_n 1, 1) := by decide +kernel
theorem dX11_house_20 : decode cX11_house 20 = .ok (.iconst 1, 1) := by decide +kernel
theorem dX11_house_21 : decode cX11_house 21 = .ok (.if_icmp .ne 7, 3) := by decide +kernel
theorem dX11_house_24 : decode cX11_house 24 = .ok (.iconst 1, 1) := by decide +kernel
theorem dX11_house_25 : decode cX11_house 25 = .ok (.goto 4, 3) := by decide +kernel
theorem dX11_house_28 : decode cX11_house 28 = .ok (.iconst 0, 1) := by decide +kernel
theorem dX11_house_29 : decode cX11_house 29 = .ok (.iload_n 1, 1) := by decide +kernel
theorem dX11_house_30 : decode cX11_house 30 = .ok (.invokevirtual 242, 3) := by decide +kernel
theorem dX11_house_33 : decode cX11_house 33 = .ok (.ireturn, 1) := by decide +kernel
theorem dX11_parishes_0 : decode cX11_parishes 0 = .ok (.aload_n 0, 1) := by decide +kernel
theorem dX11_parishes_1 : decode cX11_parishes 1 = .ok (.getfield 12, 3) := by decide +kernel
theorem dX11_parishes_4 : decode cX11_parishes 4 = .ok (.getfield 246, 3) := by decide +kernel
theorem dX11_parishes_7 : decode cX11_parishes 7 = .ok (.iconst 1, 1) := by decide +kernel
theorem dX11_parishes_8 : decode cX11_parishes 8 = .ok (.aaload, 1) := by decide +kernel
theorem dX11_parishes_9 : decode cX11_parishes 9 = .ok (.astore_n 3, 1) := by decide +kernel
theorem dX11_parishes_10 : decode cX11_parishes 10 = .ok (.iload_n 1, 1) := by decide +kernel
theorem dX11_parishes_11 : decode cX11_parishes 11 = .ok (.iconst 1, 1) := by decide +kernel
theorem dX11_parishes_12 : decode cX11_parishes 12 = .ok (.if_icmp .lt 26, 3) := by decide +kernel
theorem dX11_parishes_15 : decode cX11_parishes 15 = .ok (.iload_n 1, 1) := by decide +kernel
theorem dX11_parishes_16 : decode cX11_parishes 16 = .ok (.bipush 8, 2) := by decide +kernel
theorem dX11_parishes_18 : decode cX11_parishes 18 = .ok (.if_icmp .gt 20, 3) := by decide +kernel
theorem dX11_parishes_21 : decode cX11_parishes 21 = .ok (.iload_n 1, 1) := by decide +kernel
theorem dX11_parishes_22 : decode cX11_parishes 22 = .ok (.aload_n 3, 1) := by decide +kernel
theorem dX11_parishes_23 : decode cX11_parishes 23 = .ok (.getfield 250, 3) := by decide +kernel
theorem dX11_parishes_26 : decode cX11_parishes 26 = .ok (.if_icmp .gt 12, 3) := by decide +kernel
theorem dX11_parishes_29 : decode cX11_parishes 29 = .ok (.iload_n 2, 1) := by decide +kernel
theorem dX11_parishes_30 : decode cX11_parishes 30 = .ok (.ifCond .lt 8, 3) := by decide +kernel
theorem dX11_parishes_33 : decode cX11_parishes 33 = .ok (.iload_n 2, 1) := by decide +kernel
theorem dX11_parishes_34 : decode cX11_parishes 34 = .ok (.iconst 1, 1) := by decide +kernel
theorem dX11_parishes_35 : decode cX11_parishes 35 = .ok (.if_icmp .le 5, 3) := by decide +kernel
theorem dX11_parishes_38 : decode cX11_parishes 38 = .ok (.iconst (-1), 1) := by decide +kernel
theorem dX11_parishes_39 : decode cX11_parishes 39 = .ok (.ireturn, 1) := by decide +kernel
theorem dX11_parishes_40 : decode cX11_parishes 40 = .ok (.aload_n 0, 1) := by decide +kernel
theorem dX11_parishes_41 : decode cX11_parishes 41 = .ok (.getfield 54, 3) := by decide +kernel
theorem dX11_parishes_44 : decode cX11_parishes 44 = .ok (.aload_n 3, 1) := by decide +kernel
theorem dX11_parishes_45 : decode cX11_parishes 45 = .ok (.iload_n 1, 1) := by decide +kernel
theorem dX11_parishes_46 : decode cX11_parishes 46 = .ok (.iload_n 2, 1) := by decide +kernel
theorem dX11_parishes_47 : decode cX11_parishes 47 = .ok (.ifCond .ne 7, 3) := by decide +kernel
theorem dX11_parishes_50 : decode cX11_parishes 50 = .ok (.iconst 1, 1) := by decide +kernel
theorem dX11_parishes_51 : decode cX11_parishes 51 = .ok (.goto 4, 3) := by decide +kernel
theorem dX11_parishes_54 : decode cX11_parishes 54 = .ok (.iconst 0, 1) := by decide +kernel
theorem dX11_parishes_55 : decode cX11_parishes 55 = .ok (.invokevirtual 259, 3) := by decide +kernel
theorem dX11_parishes_58 : decode cX11_parishes 58 = .ok (.ireturn, 1) := by decide +kernel
theorem dX11_wish_0 : decode cX11_wish 0 = .ok (.aload_n 0, 1) := by decide +kernel
theorem dX11_wish_1 : decode cX11_wish 1 = .ok (.getfield 12, 3) := by decide +kernel
theorem dX11_wish_4 : decode cX11_wish 4 = .ok (.iconst 2, 1) := by decide +kernel
theorem dX11_wish_5 : decode cX11_wish 5 = .ok (.iload_n 1, 1) := by decide +kernel
theorem dX11_wish_6 : decode cX11_wish 6 = .ok (.iconst (-1), 1) := by decide +kernel
theorem dX11_wish_7 : decode cX11_wish 7 = .ok (.if_icmp .ne 7, 3) := by decide +kernel
theorem dX11_wish_10 : decode cX11_wish 10 = .ok (.iconst 1, 1) := by decide +kernel
theorem dX11_wish_11 : decode cX11_wish 11 = .ok (.goto 4, 3) := by decide +kernel
theorem dX11_wish_14 : decode cX11_wish 14 = .ok (.iconst 0, 1) := by decide +kernel
theorem dX11_wish_15 : decode cX11_wish 15 = .ok (.iload_n 1, 1) := by decide +kernel
theorem dX11_wish_16 : decode cX11_wish 16 = .ok (.ifCond .lt 13, 3) := by decide +kernel
theorem dX11_wish_19 : decode cX11_wish 19 = .ok (.iload_n 1, 1) := by decide +kernel
theorem dX11_wish_20 : decode cX11_wish 20 = .ok (.bipush 99, 2) := by decide +kernel
theorem dX11_wish_22 : decode cX11_wish 22 = .ok (.if_icmp .gt 7, 3) := by decide +kernel
theorem dX11_wish_25 : decode cX11_wish 25 = .ok (.iconst 1, 1) := by decide +kernel
theorem dX11_wish_26 : decode cX11_wish 26 = .ok (.goto 4, 3) := by decide +kernel
theorem dX11_wish_29 : decode cX11_wish 29 = .ok (.iconst 0, 1) := by decide +kernel
theorem dX11_wish_30 : decode cX11_wish 30 = .ok (.iload_n 1, 1) := by decide +kernel
theorem dX11_wish_31 : decode cX11_wish 31 = .ok (.invokevirtual 242, 3) := by decide +kernel
theorem dX11_wish_34 : decode cX11_wish 34 = .ok (.ireturn, 1) := by decide +kernel
theorem dX11_name_0 : decode cX11_name 0 = .ok (.aload_n 0, 1) := by decide +kernel
theorem dX11_name_1 : decode cX11_name 1 = .ok (.getfield 12, 3) := by decide +kernel
theorem dX11_name_4 : decode cX11_name 4 = .ok (.iconst 3, 1) := by decide +kernel
theorem dX11_name_5 : decode cX11_name 5 = .ok (.iload_n 1, 1) := by decide +kernel
theorem dX11_name_6 : decode cX11_name 6 = .ok (.iconst (-1), 1) := by decide +kernel
theorem dX11_name_7 : decode cX11_name 7 = .ok (.if_icmp .ne 7, 3) := by decide +kernel
theorem dX11_name_10 : decode cX11_name 10 = .ok (.iconst 1, 1) := by decide +kernel
theorem dX11_name_11 : decode cX11_name 11 = .ok (.goto 4, 3) := by decide +kernel
theorem dX11_name_14 : decode cX11_name 14 = .ok (.iconst 0, 1) := by decide +kernel
theorem dX11_name_15 : decode cX11_name 15 = .ok (.iload_n 1, 1) := by decide +kernel
theorem dX11_name_16 : decode cX11_name 16 = .ok (.ifCond .lt 13, 3) := by decide +kernel
theorem dX11_name_19 : decode cX11_name 19 = .ok (.iload_n 1, 1) := by decide +kernel
theorem dX11_name_20 : decode cX11_name 20 = .ok (.bipush 9, 2) := by decide +kernel
theorem dX11_name_22 : decode cX11_name 22 = .ok (.if_icmp .gt 7, 3) := by decide +kernel
theorem dX11_name_25 : decode cX11_name 25 = .ok (.iconst 1, 1) := by decide +kernel
theorem dX11_name_26 : decode cX11_name 26 = .ok (.goto 4, 3) := by decide +kernel
theorem dX11_name_29 : decode cX11_name 29 = .ok (.iconst 0, 1) := by decide +kernel
theorem dX11_name_30 : decode cX11_name 30 = .ok (.iload_n 1, 1) := by decide +kernel
theorem dX11_name_31 : decode cX11_name 31 = .ok (.invokevirtual 242, 3) := by decide +kernel
theorem dX11_name_34 : decode cX11_name 34 = .ok (.ireturn, 1) := by decide +kernel
theorem dX11_middle_0 : decode cX11_middle 0 = .ok (.iload_n 1, 1) := by decide +kernel
theorem dX11_middle_1 : decode cX11_middle 1 = .ok (.tableswitch 99 0 3 #[31, 48, 65, 82], 31) := by decide +kernel
theorem dX11_middle_32 : decode cX11_middle 32 = .ok (.aload_n 0, 1) := by decide +kernel
theorem dX11_middle_33 : decode cX11_middle 33 = .ok (.getfield 54, 3) := by decide +kernel
theorem dX11_middle_36 : decode cX11_middle 36 = .ok (.aload_n 0, 1) := by decide +kernel
theorem dX11_middle_37 : decode cX11_middle 37 = .ok (.getfield 12, 3) := by decide +kernel
theorem dX11_middle_40 : decode cX11_middle 40 = .ok (.getfield 246, 3) := by decide +kernel
theorem dX11_middle_43 : decode cX11_middle 43 = .ok (.iconst 2, 1) := by decide +kernel
theorem dX11_middle_44 : decode cX11_middle 44 = .ok (.aaload, 1) := by decide +kernel
theorem dX11_middle_45 : decode cX11_middle 45 = .ok (.invokevirtual 263, 3) := by decide +kernel
theorem dX11_middle_48 : decode cX11_middle 48 = .ok (.ireturn, 1) := by decide +kernel
theorem dX11_middle_49 : decode cX11_middle 49 = .ok (.aload_n 0, 1) := by decide +kernel
theorem dX11_middle_50 : decode cX11_middle 50 = .ok (.getfield 54, 3) := by decide +kernel
theorem dX11_middle_53 : decode cX11_middle 53 = .ok (.aload_n 0, 1) := by decide +kernel
theorem dX11_middle_54 : decode cX11_middle 54 = .ok (.getfield 12, 3) := by decide +kernel
theorem dX11_middle_57 : decode cX11_middle 57 = .ok (.getfield 246, 3) := by decide +kernel
theorem dX11_middle_60 : decode cX11_middle 60 = .ok (.iconst 2, 1) := by decide +kernel
theorem dX11_middle_61 : decode cX11_middle 61 = .ok (.aaload, 1) := by decide +kernel
theorem dX11_middle_62 : decode cX11_middle 62 = .ok (.invokevirtual 267, 3) := by decide +kernel
theorem dX11_middle_65 : decode cX11_middle 65 = .ok (.ireturn, 1) := by decide +kernel
theorem dX11_middle_66 : decode cX11_middle 66 = .ok (.aload_n 0, 1) := by decide +kernel
theorem dX11_middle_67 : decode cX11_middle 67 = .ok (.getfield 54, 3) := by decide +kernel
theorem dX11_middle_70 : decode cX11_middle 70 = .ok (.aload_n 0, 1) := by decide +kernel
theorem dX11_middle_71 : decode cX11_middle 71 = .ok (.getfield 12, 3) := by decide +kernel
theorem dX11_middle_74 : decode cX11_middle 74 = .ok (.getfield 246, 3) := by decide +kernel
theorem dX11_middle_77 : decode cX11_middle 77 = .ok (.iconst 3, 1) := by decide +kernel
theorem dX11_middle_78 : decode cX11_middle 78 = .ok (.aaload, 1) := by decide +kernel
theorem dX11_middle_79 : decode cX11_middle 79 = .ok (.invokevirtual 270, 3) := by decide +kernel
theorem dX11_middle_82 : decode cX11_middle 82 = .ok (.ireturn, 1) := by decide +kernel
theorem dX11_middle_83 : decode cX11_middle 83 = .ok (.aload_n 0, 1) := by decide +kernel
theorem dX11_middle_84 : decode cX11_middle 84 = .ok (.getfield 54, 3) := by decide +kernel
theorem dX11_middle_87 : decode cX11_middle 87 = .ok (.aload_n 0, 1) := by decide +kernel
theorem dX11_middle_88 : decode cX11_middle 88 = .ok (.getfield 12, 3) := by decide +kernel
theorem dX11_middle_91 : decode cX11_middle 91 = .ok (.getfield 246, 3) := by decide +kernel
theorem dX11_middle_94 : decode cX11_middle 94 = .ok (.iconst 3, 1) := by decide +kernel
theorem dX11_middle_95 : decode cX11_middle 95 = .ok (.aaload, 1) := by decide +kernel
theorem dX11_middle_96 : decode cX11_middle 96 = .ok (.invokevirtual 273, 3) := by decide +kernel
theorem dX11_middle_99 : decode cX11_middle 99 = .ok (.ireturn, 1) := by decide +kernel
theorem dX11_middle_100 : decode cX11_middle 100 = .ok (.iconst (-1), 1) := by decide +kernel
theorem dX11_middle_101 : decode cX11_middle 101 = .ok (.ireturn, 1) := by decide +kernel
theorem dX11_candle_0 : decode cX11_candle 0 = .ok (.aload_n 0, 1) := by decide +kernel
theorem dX11_candle_1 : decode cX11_candle 1 = .ok (.getfield 12, 3) := by decide +kernel
theorem dX11_candle_4 : decode cX11_candle 4 = .ok (.iconst 4, 1) := by decide +kernel
theorem dX11_candle_5 : decode cX11_candle 5 = .ok (.iload_n 1, 1) := by decide +kernel
theorem dX11_candle_6 : decode cX11_candle 6 = .ok (.iconst (-1), 1) := by decide +kernel
theorem dX11_candle_7 : decode cX11_candle 7 = .ok (.if_icmp .ne 7, 3) := by decide +kernel
theorem dX11_candle_10 : decode cX11_candle 10 = .ok (.iconst 1, 1) := by decide +kernel
theorem dX11_candle_11 : decode cX11_candle 11 = .ok (.goto 4, 3) := by decide +kernel
theorem dX11_candle_14 : decode cX11_candle 14 = .ok (.iconst 0, 1) := by decide +kernel
theorem dX11_candle_15 : decode cX11_candle 15 = .ok (.iload_n 1, 1) := by decide +kernel
theorem dX11_candle_16 : decode cX11_candle 16 = .ok (.iconst 1, 1) := by decide +kernel
theorem dX11_candle_17 : decode cX11_candle 17 = .ok (.if_icmp .lt 13, 3) := by decide +kernel
theorem dX11_candle_20 : decode cX11_candle 20 = .ok (.iload_n 1, 1) := by decide +kernel
theorem dX11_candle_21 : decode cX11_candle 21 = .ok (.bipush 50, 2) := by decide +kernel
theorem dX11_candle_23 : decode cX11_candle 23 = .ok (.if_icmp .gt 7, 3) := by decide +kernel
theorem dX11_candle_26 : decode cX11_candle 26 = .ok (.iconst 1, 1) := by decide +kernel
theorem dX11_candle_27 : decode cX11_candle 27 = .ok (.goto 4, 3) := by decide +kernel
theorem dX11_candle_30 : decode cX11_candle 30 = .ok (.iconst 0, 1) := by decide +kernel
theorem dX11_candle_31 : decode cX11_candle 31 = .ok (.iload_n 1, 1) := by decide +kernel
theorem dX11_candle_32 : decode cX11_candle 32 = .ok (.invokevirtual 242, 3) := by decide +kernel
theorem dX11_candle_35 : decode cX11_candle 35 = .ok (.ireturn, 1) := by decide +kernel
theorem dX11_candles_0 : decode cX11_candles 0 = .ok (.iload_n 1, 1) := by decide +kernel
theorem dX11_candles_1 : decode cX11_candles 1 = .ok (.ifCond .lt 19, 3) := by decide +kernel
theorem dX11_candles_4 : decode cX11_candles 4 = .ok (.iload_n 1, 1) := by decide +kernel
theorem dX11_candles_5 : decode cX11_candles 5 = .ok (.sipush 400, 3) := by decide +kernel
theorem dX11_candles_8 : decode cX11_candles 8 = .ok (.if_icmp .gt 12, 3) := by decide +kernel
theorem dX11_candles_11 : decode cX11_candles 11 = .ok (.iload_n 2, 1) := by decide +kernel
theorem dX11_candles_12 : decode cX11_candles 12 = .ok (.ifCond .lt 8, 3) := by decide +kernel
theorem dX11_candles_15 : decode cX11_candles 15 = .ok (.iload_n 2, 1) := by decide +kernel
theorem dX11_candles_16 : decode cX11_candles 16 = .ok (.iconst 1, 1) := by decide +kernel
theorem dX11_candles_17 : decode cX11_candles 17 = .ok (.if_icmp .le 5, 3) := by decide +kernel
theorem dX11_candles_20 : decode cX11_candles 20 = .ok (.iconst (-1), 1) := by decide +kernel
theorem dX11_candles_21 : decode cX11_candles 21 = .ok (.ireturn, 1) := by decide +kernel
theorem dX11_candles_22 : decode cX11_candles 22 = .ok (.aload_n 0, 1) := by decide +kernel
theorem dX11_candles_23 : decode cX11_candles 23 = .ok (.getfield 54, 3) := by decide +kernel
theorem dX11_candles_26 : decode cX11_candles 26 = .ok (.aload_n 0, 1) := by decide +kernel
theorem dX11_candles_27 : decode cX11_candles 27 = .ok (.getfield 12, 3) := by decide +kernel
theorem dX11_candles_30 : decode cX11_candles 30 = .ok (.getfield 246, 3) := by decide +kernel
theorem dX11_candles_33 : decode cX11_candles 33 = .ok (.iconst 4, 1) := by decide +kernel
theorem dX11_candles_34 : decode cX11_candles 34 = .ok (.aaload, 1) := by decide +kernel
theorem dX11_candles_35 : decode cX11_candles 35 = .ok (.iload_n 1, 1) := by decide +kernel
theorem dX11_candles_36 : decode cX11_candles 36 = .ok (.iload_n 2, 1) := by decide +kernel
theorem dX11_candles_37 : decode cX11_candles 37 = .ok (.ifCond .ne 7, 3) := by decide +kernel
theorem dX11_candles_40 : decode cX11_candles 40 = .ok (.iconst 1, 1) := by decide +kernel
theorem dX11_candles_41 : decode cX11_candles 41 = .ok (.goto 4, 3) := by decide +kernel
theorem dX11_candles_44 : decode cX11_candles 44 = .ok (.iconst 0, 1) := by decide +kernel
theorem dX11_candles_45 : decode cX11_candles 45 = .ok (.invokevirtual 276, 3) := by decide +kernel
theorem dX11_candles_48 : decode cX11_candles 48 = .ok (.ireturn, 1) := by decide +kernel
theorem dX11_door_0 : decode cX11_door 0 = .ok (.iload_n 1, 1) := by decide +kernel
theorem dX11_door_1 : decode cX11_door 1 = .ok (.iconst 1, 1) := by decide +kernel
theorem dX11_door_2 : decode cX11_door 2 = .ok (.if_icmp .lt 24, 3) := by decide +kernel
theorem dX11_door_5 : decode cX11_door 5 = .ok (.iload_n 1, 1) := by decide +kernel
theorem dX11_door_6 : decode cX11_door 6 = .ok (.bipush 50, 2) := by decide +kernel
theorem dX11_door_8 : decode cX11_door 8 = .ok (.if_icmp .gt 18, 3) := by decide +kernel
theorem dX11_door_11 : decode cX11_door 11 = .ok (.iload_n 2, 1) := by decide +kernel
theorem dX11_door_12 : decode cX11_door 12 = .ok (.ifCond .lt 14, 3) := by decide +kernel
theorem dX11_door_15 : decode cX11_door 15 = .ok (.iload_n 2, 1) := by decide +kernel
theorem dX11_door_16 : decode cX11_door 16 = .ok (.sipush 200, 3) := by decide +kernel
theorem dX11_door_19 : decode cX11_door 19 = .ok (.if_icmp .gt 7, 3) := by decide +kernel
theorem dX11_door_22 : decode cX11_door 22 = .ok (.iconst 1, 1) := by decide +kernel
theorem dX11_door_23 : decode cX11_door 23 = .ok (.goto 4, 3) := by decide +kernel
theorem dX11_door_26 : decode cX11_door 26 = .ok (.iconst 0, 1) := by decide +kernel
theorem dX11_door_27 : decode cX11_door 27 = .ok (.istore_n 3, 1) := by decide +kernel
theorem dX11_door_28 : decode cX11_door 28 = .ok (.aload_n 0, 1) := by decide +kernel
theorem dX11_door_29 : decode cX11_door 29 = .ok (.getfield 12, 3) := by decide +kernel
theorem dX11_door_32 : decode cX11_door 32 = .ok (.iconst 5, 1) := by decide +kernel
theorem dX11_door_33 : decode cX11_door 33 = .ok (.iload_n 1, 1) := by decide +kernel
theorem dX11_door_34 : decode cX11_door 34 = .ok (.iconst (-1), 1) := by decide +kernel
theorem dX11_door_35 : decode cX11_door 35 = .ok (.if_icmp .ne 7, 3) := by decide +kernel
theorem dX11_door_38 : decode cX11_door 38 = .ok (.iconst 1, 1) := by decide +kernel
theorem dX11_door_39 : decode cX11_door 39 = .ok (.goto 4, 3) := by decide +kernel
theorem dX11_door_42 : decode cX11_door 42 = .ok (.iconst 0, 1) := by decide +kernel
theorem dX11_door_43 : decode cX11_door 43 = .ok (.iload_n 3, 1) := by decide +kernel
theorem dX11_door_44 : decode cX11_door 44 = .ok (.iload_n 1, 1) := by decide +kernel
theorem dX11_door_45 : decode cX11_door 45 = .ok (.sipush 256, 3) := by decide +kernel
theorem dX11_door_48 : decode cX11_door 48 = .ok (.imul, 1) := by decide +kernel
theorem dX11_door_49 : decode cX11_door 49 = .ok (.iload_n 2, 1) := by decide +kernel
theorem dX11_door_50 : decode cX11_door 50 = .ok (.iadd, 1) := by decide +kernel
theorem dX11_door_51 : decode cX11_door 51 = .ok (.invokevirtual 242, 3) := by decide +kernel
theorem dX11_door_54 : decode cX11_door 54 = .ok (.ireturn, 1) := by decide +kernel
theorem dX11_stack_0 : decode cX11_stack 0 = .ok (.aload_n 0, 1) := by decide +kernel
theorem dX11_stack_1 : decode cX11_stack 1 = .ok (.getfield 54, 3) := by decide +kernel
theorem dX11_stack_4 : decode cX11_stack 4 = .ok (.aload_n 0, 1) := by decide +kernel
theorem dX11_stack_5 : decode cX11_stack 5 = .ok (.getfield 12, 3) := by decide +kernel
theorem dX11_stack_8 : decode cX11_stack 8 = .ok (.getfield 246, 3) := by decide +kernel
theorem dX11_stack_11 : decode cX11_stack 11 = .ok (.iconst 5, 1) := by decide +kernel
theorem dX11_stack_12 : decode cX11_stack 12 = .ok (.aaload, 1) := by decide +kernel
theorem dX11_stack_13 : decode cX11_stack 13 = .ok (.invokevirtual 279, 3) := by decide +kernel
theorem dX11_stack_16 : decode cX11_stack 16 = .ok (.ireturn, 1) := by decide +kernel
theorem dX11_stands_0 : decode cX11_stands 0 = .ok (.aload_n 0, 1) := by decide +kernel
theorem dX11_stands_1 : decode cX11_stands 1 = .ok (.getfield 12, 3) := by decide +kernel
theorem dX11_stands_4 : decode cX11_stands 4 = .ok (.bipush 6, 2) := by decide +kernel
theorem dX11_stands_6 : decode cX11_stands 6 = .ok (.iload_n 1, 1) := by decide +kernel
theorem dX11_stands_7 : decode cX11_stands 7 = .ok (.iconst (-1), 1) := by decide +kernel
theorem dX11_stands_8 : decode cX11_stands 8 = .ok (.if_icmp .ne 7, 3) := by decide +kernel
theorem dX11_stands_11 : decode cX11_stands 11 = .ok (.iconst 1, 1) := by decide +kernel
theorem dX11_stands_12 : decode cX11_stands 12 = .ok (.goto 4, 3) := by decide +kernel
theorem dX11_stands_15 : decode cX11_stands 15 = .ok (.iconst 0, 1) := by decide +kernel
theorem dX11_stands_16 : decode cX11_stands 16 = .ok (.iload_n 1, 1) := by decide +kernel
theorem dX11_stands_17 : decode cX11_stands 17 = .ok (.ifCond .lt 13, 3) := by decide +kernel
theorem dX11_stands_20 : decode cX11_stands 20 = .ok (.iload_n 1, 1) := by decide +kernel
theorem dX11_stands_21 : decode cX11_stands 21 = .ok (.bipush 30, 2) := by decide +kernel
theorem dX11_stands_23 : decode cX11_stands 23 = .ok (.if_icmp .gt 7, 3) := by decide +kernel
theorem dX11_stands_26 : decode cX11_stands 26 = .ok (.iconst 1, 1) := by decide +kernel
theorem dX11_stands_27 : decode cX11_stands 27 = .ok (.goto 4, 3) := by decide +kernel
theorem dX11_stands_30 : decode cX11_stands 30 = .ok (.iconst 0, 1) := by decide +kernel
theorem dX11_stands_31 : decode cX11_stands 31 = .ok (.iload_n 1, 1) := by decide +kernel
theorem dX11_stands_32 : decode cX11_stands 32 = .ok (.invokevirtual 242, 3) := by decide +kernel
theorem dX11_stands_35 : decode cX11_stands 35 = .ok (.ireturn, 1) := by decide +kernel
theorem dX11_lantern_0 : decode cX11_lantern 0 = .ok (.iload_n 1, 1) := by decide +kernel
theorem dX11_lantern_1 : decode cX11_lantern 1 = .ok (.ifCond .lt 18, 3) := by decide +kernel
theorem dX11_lantern_4 : decode cX11_lantern 4 = .ok (.iload_n 1, 1) := by decide +kernel
theorem dX11_lantern_5 : decode cX11_lantern 5 = .ok (.bipush 40, 2) := by decide +kernel
theorem dX11_lantern_7 : decode cX11_lantern 7 = .ok (.if_icmp .gt 12, 3) := by decide +kernel
theorem dX11_lantern_10 : decode cX11_lantern 10 = .ok (.iload_n 2, 1) := by decide +kernel
theorem dX11_lantern_11 : decode cX11_lantern 11 = .ok (.ifCond .lt 8, 3) := by decide +kernel
theorem dX11_lantern_14 : decode cX11_lantern 14 = .ok (.iload_n 2, 1) := by decide +kernel
theorem dX11_lantern_15 : decode cX11_lantern 15 = .ok (.iconst 1, 1) := by decide +kernel
theorem dX11_lantern_16 : decode cX11_lantern 16 = .ok (.if_icmp .le 5, 3) := by decide +kernel
theorem dX11_lantern_19 : decode cX11_lantern 19 = .ok (.iconst (-1), 1) := by decide +kernel
theorem dX11_lantern_20 : decode cX11_lantern 20 = .ok (.ireturn, 1) := by decide +kernel
theorem dX11_lantern_21 : decode cX11_lantern 21 = .ok (.aload_n 0, 1) := by decide +kernel
theorem dX11_lantern_22 : decode cX11_lantern 22 = .ok (.getfield 54, 3) := by decide +kernel
theorem dX11_lantern_25 : decode cX11_lantern 25 = .ok (.aload_n 0, 1) := by decide +kernel
theorem dX11_lantern_26 : decode cX11_lantern 26 = .ok (.getfield 12, 3) := by decide +kernel
theorem dX11_lantern_29 : decode cX11_lantern 29 = .ok (.getfield 246, 3) := by decide +kernel
theorem dX11_lantern_32 : decode cX11_lantern 32 = .ok (.bipush 6, 2) := by decide +kernel
theorem dX11_lantern_34 : decode cX11_lantern 34 = .ok (.aaload, 1) := by decide +kernel
theorem dX11_lantern_35 : decode cX11_lantern 35 = .ok (.iload_n 1, 1) := by decide +kernel
theorem dX11_lantern_36 : decode cX11_lantern 36 = .ok (.iload_n 2, 1) := by decide +kernel
theorem dX11_lantern_37 : decode cX11_lantern 37 = .ok (.ifCond .ne 7, 3) := by decide +kernel
theorem dX11_lantern_40 : decode cX11_lantern 40 = .ok (.iconst 1, 1) := by decide +kernel
theorem dX11_lantern_41 : decode cX11_lantern 41 = .ok (.goto 4, 3) := by decide +kernel
theorem dX11_lantern_44 : decode cX11_lantern 44 = .ok (.iconst 0, 1) := by decide +kernel
theorem dX11_lantern_45 : decode cX11_lantern 45 = .ok (.invokevirtual 282, 3) := by decide +kernel
theorem dX11_lantern_48 : decode cX11_lantern 48 = .ok (.ireturn, 1) := by decide +kernel
theorem dX11_bill_0 : decode cX11_bill 0 = .ok (.aload_n 0, 1) := by decide +kernel
theorem dX11_bill_1 : decode cX11_bill 1 = .ok (.getfield 12, 3) := by decide +kernel
theorem dX11_bill_4 : decode cX11_bill 4 = .ok (.bipush 7, 2) := by decide +kernel
theorem dX11_bill_6 : decode cX11_bill 6 = .ok (.iload_n 1, 1) := by decide +kernel
theorem dX11_bill_7 : decode cX11_bill 7 = .ok (.iconst (-1), 1) := by decide +kernel
theorem dX11_bill_8 : decode cX11_bill 8 = .ok (.if_icmp .ne 7, 3) := by decide +kernel
theorem dX11_bill_11 : decode cX11_bill 11 = .ok (.iconst 1, 1) := by decide +kernel
theorem dX11_bill_12 : decode cX11_bill 12 = .ok (.goto 4, 3) := by decide +kernel
theorem dX11_bill_15 : decode cX11_bill 15 = .ok (.iconst 0, 1) := by decide +kernel
theorem dX11_bill_16 : decode cX11_bill 16 = .ok (.iload_n 1, 1) := by decide +kernel
theorem dX11_bill_17 : decode cX11_bill 17 = .ok (.iload_n 2, 1) := by decide +kernel
theorem dX11_bill_18 : decode cX11_bill 18 = .ok (.invokestatic 285, 3) := by decide +kernel
theorem dX11_bill_21 : decode cX11_bill 21 = .ok (.iload_n 1, 1) := by decide +kernel
theorem dX11_bill_22 : decode cX11_bill 22 = .ok (.sipush 256, 3) := by decide +kernel
theorem dX11_bill_25 : decode cX11_bill 25 = .ok (.imul, 1) := by decide +kernel
theorem dX11_bill_26 : decode cX11_bill 26 = .ok (.iload_n 2, 1) := by decide +kernel
theorem dX11_bill_27 : decode cX11_bill 27 = .ok (.iadd, 1) := by decide +kernel
theorem dX11_bill_28 : decode cX11_bill 28 = .ok (.invokevirtual 242, 3) := by decide +kernel
theorem dX11_bill_31 : decode cX11_bill 31 = .ok (.ireturn, 1) := by decide +kernel
theorem dX11_bills_0 : decode cX11_bills 0 = .ok (.iload_n 1, 1) := by decide +kernel
theorem dX11_bills_1 : decode cX11_bills 1 = .ok (.ifCond .lt 8, 3) := by decide +kernel
theorem dX11_bills_4 : decode cX11_bills 4 = .ok (.iload_n 1, 1) := by decide +kernel
theorem dX11_bills_5 : decode cX11_bills 5 = .ok (.iconst 2, 1) := by decide +kernel
theorem dX11_bills_6 : decode cX11_bills 6 = .ok (.if_icmp .le 5, 3) := by decide +kernel
theorem dX11_bills_9 : decode cX11_bills 9 = .ok (.iconst (-1), 1) := by decide +kernel
theorem dX11_bills_10 : decode cX11_bills 10 = .ok (.ireturn, 1) := by decide +kernel
theorem dX11_bills_11 : decode cX11_bills 11 = .ok (.aload_n 0, 1) := by decide +kernel
theorem dX11_bills_12 : decode cX11_bills 12 = .ok (.getfield 54, 3) := by decide +kernel
theorem dX11_bills_15 : decode cX11_bills 15 = .ok (.aload_n 0, 1) := by decide +kernel
theorem dX11_bills_16 : decode cX11_bills 16 = .ok (.getfield 12, 3) := by decide +kernel
theorem dX11_bills_19 : decode cX11_bills 19 = .ok (.getfield 246, 3) := by decide +kernel
theorem dX11_bills_22 : decode cX11_bills 22 = .ok (.bipush 7, 2) := by decide +kernel
theorem dX11_bills_24 : decode cX11_bills 24 = .ok (.aaload, 1) := by decide +kernel
theorem dX11_bills_25 : decode cX11_bills 25 = .ok (.iload_n 1, 1) := by decide +kernel
theorem dX11_bills_26 : decode cX11_bills 26 = .ok (.invokevirtual 288, 3) := by decide +kernel
theorem dX11_bills_29 : decode cX11_bills 29 = .ok (.ireturn, 1) := by decide +kernel
theorem dX11_before_0 : decode cX11_before 0 = .ok (.aload_n 0, 1) := by decide +kernel
theorem dX11_before_1 : decode cX11_before 1 = .ok (.getfield 12, 3) := by decide +kernel
theorem dX11_before_4 : decode cX11_before 4 = .ok (.bipush 8, 2) := by decide +kernel
theorem dX11_before_6 : decode cX11_before 6 = .ok (.iload_n 1, 1) := by decide +kernel
theorem dX11_before_7 : decode cX11_before 7 = .ok (.iconst (-1), 1) := by decide +kernel
theorem dX11_before_8 : decode cX11_before 8 = .ok (.if_icmp .ne 7, 3) := by decide +kernel
theorem dX11_before_11 : decode cX11_before 11 = .ok (.iconst 1, 1) := by decide +kernel
theorem dX11_before_12 : decode cX11_before 12 = .ok (.goto 4, 3) := by decide +kernel
theorem dX11_before_15 : decode cX11_before 15 = .ok (.iconst 0, 1) := by decide +kernel
theorem dX11_before_16 : decode cX11_before 16 = .ok (.iload_n 1, 1) := by decide +kernel
theorem dX11_before_17 : decode cX11_before 17 = .ok (.iload_n 2, 1) := by decide +kernel
theorem dX11_before_18 : decode cX11_before 18 = .ok (.invokestatic 285, 3) := by decide +kernel
theorem dX11_before_21 : decode cX11_before 21 = .ok (.iload_n 1, 1) := by decide +kernel
theorem dX11_before_22 : decode cX11_before 22 = .ok (.sipush 256, 3) := by decide +kernel
theorem dX11_before_25 : decode cX11_before 25 = .ok (.imul, 1) := by decide +kernel
theorem dX11_before_26 : decode cX11_before 26 = .ok (.iload_n 2, 1) := by decide +kernel
theorem dX11_before_27 : decode cX11_before 27 = .ok (.iadd, 1) := by decide +kernel
theorem dX11_before_28 : decode cX11_before 28 = .ok (.invokevirtual 242, 3) := by decide +kernel
theorem dX11_before_31 : decode cX11_before 31 = .ok (.ireturn, 1) := by decide +kernel
theorem dX11_order_0 : decode cX11_order 0 = .ok (.aload_n 0, 1) := by decide +kernel
theorem dX11_order_1 : decode cX11_order 1 = .ok (.getfield 54, 3) := by decide +kernel
theorem dX11_order_4 : decode cX11_order 4 = .ok (.aload_n 0, 1) := by decide +kernel
theorem dX11_order_5 : decode cX11_order 5 = .ok (.getfield 12, 3) := by decide +kernel
theorem dX11_order_8 : decode cX11_order 8 = .ok (.getfield 246, 3) := by decide +kernel
theorem dX11_order_11 : decode cX11_order 11 = .ok (.bipush 8, 2) := by decide +kernel
theorem dX11_order_13 : decode cX11_order 13 = .ok (.aaload, 1) := by decide +kernel
theorem dX11_order_14 : decode cX11_order 14 = .ok (.invokevirtual 292, 3) := by decide +kernel
theorem dX11_order_17 : decode cX11_order 17 = .ok (.ireturn, 1) := by decide +kernel
theorem dX11_game_0 : decode cX11_game 0 = .ok (.iload_n 2, 1) := by decide +kernel
theorem dX11_game_1 : decode cX11_game 1 = .ok (.ifCond .lt 19, 3) := by decide +kernel
theorem dX11_game_4 : decode cX11_game 4 = .ok (.iload_n 2, 1) := by decide +kernel
theorem dX11_game_5 : decode cX11_game 5 = .ok (.iconst 1, 1) := by decide +kernel
theorem dX11_game_6 : decode cX11_game 6 = .ok (.if_icmp .gt 14, 3) := by decide +kernel
theorem dX11_game_9 : decode cX11_game 9 = .ok (.aload_n 0, 1) := by decide +kernel
theorem dX11_game_10 : decode cX11_game 10 = .ok (.getfield 61, 3) := by decide +kernel
theorem dX11_game_13 : decode cX11_game 13 = .ok (.iload_n 1, 1) := by decide +kernel
theorem dX11_game_14 : decode cX11_game 14 = .ok (.invokevirtual 295, 3) := by decide +kernel
theorem dX11_game_17 : decode cX11_game 17 = .ok (.ifCond .ne 6, 3) := by decide +kernel
theorem dX11_game_20 : decode cX11_game 20 = .ok (.bipush (-10), 2) := by decide +kernel
theorem dX11_game_22 : decode cX11_game 22 = .ok (.ireturn, 1) := by decide +kernel
theorem dX11_game_23 : decode cX11_game 23 = .ok (.iload_n 2, 1) := by decide +kernel
theorem dX11_game_24 : decode cX11_game 24 = .ok (.ifCond .ne 13, 3) := by decide +kernel
theorem dX11_game_27 : decode cX11_game 27 = .ok (.aload_n 0, 1) := by decide +kernel
theorem dX11_game_28 : decode cX11_game 28 = .ok (.getfield 61, 3) := by decide +kernel
theorem dX11_game_31 : decode cX11_game 31 = .ok (.invokevirtual 298, 3) := by decide +kernel
theorem dX11_game_34 : decode cX11_game 34 = .ok (.goto 10, 3) := by decide +kernel
theorem dX11_game_37 : decode cX11_game 37 = .ok (.aload_n 0, 1) := by decide +kernel
theorem dX11_game_38 : decode cX11_game 38 = .ok (.getfield 61, 3) := by decide +kernel
theorem dX11_game_41 : decode cX11_game 41 = .ok (.invokevirtual 301, 3) := by decide +kernel
theorem dX11_game_44 : decode cX11_game 44 = .ok (.ireturn, 1) := by decide +kernel
theorem dX11_undo_0 : decode cX11_undo 0 = .ok (.aload_n 0, 1) := by decide +kernel
theorem dX11_undo_1 : decode cX11_undo 1 = .ok (.getfield 26, 3) := by decide +kernel
theorem dX11_undo_4 : decode cX11_undo 4 = .ok (.aload_n 0, 1) := by decide +kernel
theorem dX11_undo_5 : decode cX11_undo 5 = .ok (.getfield 12, 3) := by decide +kernel
theorem dX11_undo_8 : decode cX11_undo 8 = .ok (.getfield 67, 3) := by decide +kernel
theorem dX11_undo_11 : decode cX11_undo 11 = .ok (.invokevirtual 304, 3) := by decide +kernel
theorem dX11_undo_14 : decode cX11_undo 14 = .ok (.ireturn, 1) := by decide +kernel
theorem dX11_image_0 : decode cX11_image 0 = .ok (.iload_n 1, 1) := by decide +kernel
theorem dX11_image_1 : decode cX11_image 1 = .ok (.ifCond .eq 21, 3) := by decide +kernel
theorem dX11_image_4 : decode cX11_image 4 = .ok (.aload_n 0, 1) := by decide +kernel
theorem dX11_image_5 : decode cX11_image 5 = .ok (.getfield 16, 3) := by decide +kernel
theorem dX11_image_8 : decode cX11_image 8 = .ok (.aload_n 0, 1) := by decide +kernel
theorem dX11_image_9 : decode cX11_image 9 = .ok (.getfield 12, 3) := by decide +kernel
theorem dX11_image_12 : decode cX11_image 12 = .ok (.invokevirtual 308, 3) := by decide +kernel
theorem dX11_image_15 : decode cX11_image 15 = .ok (.aload_n 0, 1) := by decide +kernel
theorem dX11_image_16 : decode cX11_image 16 = .ok (.iconst 1, 1) := by decide +kernel
theorem dX11_image_17 : decode cX11_image 17 = .ok (.putfield 19, 3) := by decide +kernel
theorem dX11_image_20 : decode cX11_image 20 = .ok (.iconst 1, 1) := by decide +kernel
theorem dX11_image_21 : decode cX11_image 21 = .ok (.ireturn, 1) := by decide +kernel
theorem dX11_image_22 : decode cX11_image 22 = .ok (.aload_n 0, 1) := by decide +kernel
theorem dX11_image_23 : decode cX11_image 23 = .ok (.getfield 19, 3) := by decide +kernel
theorem dX11_image_26 : decode cX11_image 26 = .ok (.ifCond .eq 21, 3) := by decide +kernel
theorem dX11_image_29 : decode cX11_image 29 = .ok (.aload_n 0, 1) := by decide +kernel
theorem dX11_image_30 : decode cX11_image 30 = .ok (.getfield 12, 3) := by decide +kernel
theorem dX11_image_33 : decode cX11_image 33 = .ok (.aload_n 0, 1) := by decide +kernel
theorem dX11_image_34 : decode cX11_image 34 = .ok (.getfield 16, 3) := by decide +kernel
theorem dX11_image_37 : decode cX11_image 37 = .ok (.invokevirtual 308, 3) := by decide +kernel
theorem dX11_image_40 : decode cX11_image 40 = .ok (.aload_n 0, 1) := by decide +kernel
theorem dX11_image_41 : decode cX11_image 41 = .ok (.getfield 26, 3) := by decide +kernel
theorem dX11_image_44 : decode cX11_image 44 = .ok (.invokevirtual 92, 3) := by decide +kernel
theorem dX11_image_47 : decode cX11_image 47 = .ok (.aload_n 0, 1) := by decide +kernel
theorem dX11_image_48 : decode cX11_image 48 = .ok (.getfield 19, 3) := by decide +kernel
theorem dX11_image_51 : decode cX11_image 51 = .ok (.ireturn, 1) := by decide +kernel
theorem dX11_look_0 : decode cX11_look 0 = .ok (.iload_n 1, 1) := by decide +kernel
theorem dX11_look_1 : decode cX11_look 1 = .ok (.bipush 9, 2) := by decide +kernel
theorem dX11_look_3 : decode cX11_look 3 = .ok (.if_icmp .lt 21, 3) := by decide +kernel
theorem dX11_look_6 : decode cX11_look 6 = .ok (.iload_n 1, 1) := by decide +kernel
theorem dX11_look_7 : decode cX11_look 7 = .ok (.bipush 12, 2) := by decide +kernel
theorem dX11_look_9 : decode cX11_look 9 = .ok (.if_icmp .gt 15, 3) := by decide +kernel
theorem dX11_look_12 : decode cX11_look 12 = .ok (.aload_n 0, 1) := by decide +kernel
theorem dX11_look_13 : decode cX11_look 13 = .ok (.getfield 12, 3) := by decide +kernel
theorem dX11_look_16 : decode cX11_look 16 = .ok (.iload_n 1, 1) := by decide +kernel
theorem dX11_look_17 : decode cX11_look 17 = .ok (.bipush 9, 2) := by decide +kernel
theorem dX11_look_19 : decode cX11_look 19 = .ok (.isub, 1) := by decide +kernel
theorem dX11_look_20 : decode cX11_look 20 = .ok (.invokevirtual 312, 3) := by decide +kernel
theorem dX11_look_23 : decode cX11_look 23 = .ok (.ireturn, 1) := by decide +kernel
theorem dX11_look_24 : decode cX11_look 24 = .ok (.iload_n 1, 1) := by decide +kernel
theorem dX11_look_25 : decode cX11_look 25 = .ok (.tableswitch 178 0 13 #[71, 82, 93, 104, 115, 126, 137, 148, 159, 178, 178, 178, 178, 170], 71) := by decide +kernel
theorem dX11_look_96 : decode cX11_look 96 = .ok (.aload_n 0, 1) := by decide +kernel
theorem dX11_look_97 : decode cX11_look 97 = .ok (.getfield 12, 3) := by decide +kernel
theorem dX11_look_100 : decode cX11_look 100 = .ok (.getfield 67, 3) := by decide +kernel
theorem dX11_look_103 : decode cX11_look 103 = .ok (.getfield 99, 3) := by decide +kernel
theorem dX11_look_106 : decode cX11_look 106 = .ok (.ireturn, 1) := by decide +kernel
theorem dX11_look_107 : decode cX11_look 107 = .ok (.aload_n 0, 1) := by decide +kernel
theorem dX11_look_108 : decode cX11_look 108 = .ok (.getfield 12, 3) := by decide +kernel
theorem dX11_look_111 : decode cX11_look 111 = .ok (.getfield 67, 3) := by decide +kernel
theorem dX11_look_114 : decode cX11_look 114 = .ok (.invokevirtual 204, 3) := by decide +kernel
theorem dX11_look_117 : decode cX11_look 117 = .ok (.ireturn, 1) := by decide +kernel
theorem dX11_look_118 : decode cX11_look 118 = .ok (.aload_n 0, 1) := by decide +kernel
theorem dX11_look_119 : decode cX11_look 119 = .ok (.getfield 12, 3) := by decide +kernel
theorem dX11_look_122 : decode cX11_look 122 = .ok (.getfield 67, 3) := by decide +kernel
theorem dX11_look_125 : decode cX11_look 125 = .ok (.getfield 106, 3) := by decide +kernel
theorem dX11_look_128 : decode cX11_look 128 = .ok (.ireturn, 1) := by decide +kernel
theorem dX11_look_129 : decode cX11_look 129 = .ok (.aload_n 0, 1) := by decide +kernel
theorem dX11_look_130 : decode cX11_look 130 = .ok (.getfield 12, 3) := by decide +kernel
theorem dX11_look_133 : decode cX11_look 133 = .ok (.getfield 67, 3) := by decide +kernel
theorem dX11_look_136 : decode cX11_look 136 = .ok (.getfield 140, 3) := by decide +kernel
theorem dX11_look_139 : decode cX11_look 139 = .ok (.ireturn, 1) := by decide +kernel
theorem dX11_look_140 : decode cX11_look 140 = .ok (.aload_n 0, 1) := by decide +kernel
theorem dX11_look_141 : decode cX11_look 141 = .ok (.getfield 12, 3) := by decide +kernel
theorem dX11_look_144 : decode cX11_look 144 = .ok (.getfield 67, 3) := by decide +kernel
theorem dX11_look_147 : decode cX11_look 147 = .ok (.getfield 137, 3) := by decide +kernel
theorem dX11_look_150 : decode cX11_look 150 = .ok (.ireturn, 1) := by decide +kernel
theorem dX11_look_151 : decode cX11_look 151 = .ok (.aload_n 0, 1) := by decide +kernel
theorem dX11_look_152 : decode cX11_look 152 = .ok (.getfield 12, 3) := by decide +kernel
theorem dX11_look_155 : decode cX11_look 155 = .ok (.getfield 67, 3) := by decide +kernel
theorem dX11_look_158 : decode cX11_look 158 = .ok (.getfield 201, 3) := by decide +kernel
theorem dX11_look_161 : decode cX11_look 161 = .ok (.ireturn, 1) := by decide +kernel
theorem dX11_look_162 : decode cX11_look 162 = .ok (.aload_n 0, 1) := by decide +kernel
theorem dX11_look_163 : decode cX11_look 163 = .ok (.getfield 12, 3) := by decide +kernel
theorem dX11_look_166 : decode cX11_look 166 = .ok (.getfield 67, 3) := by decide +kernel
theorem dX11_look_169 : decode cX11_look 169 = .ok (.getfield 315, 3) := by decide +kernel
theorem dX11_look_172 : decode cX11_look 172 = .ok (.ireturn, 1) := by decide +kernel
theorem dX11_look_173 : decode cX11_look 173 = .ok (.aload_n 0, 1) := by decide +kernel
theorem dX11_look_174 : decode cX11_look 174 = .ok (.getfield 12, 3) := by decide +kernel
theorem dX11_look_177 : decode cX11_look 177 = .ok (.getfield 67, 3) := by decide +kernel
theorem dX11_look_180 : decode cX11_look 180 = .ok (.getfield 191, 3) := by decide +kernel
theorem dX11_look_183 : decode cX11_look 183 = .ok (.ireturn, 1) := by decide +kernel
theorem dX11_look_184 : decode cX11_look 184 = .ok (.aload_n 0, 1) := by decide +kernel
theorem dX11_look_185 : decode cX11_look 185 = .ok (.getfield 12, 3) := by decide +kernel
theorem dX11_look_188 : decode cX11_look 188 = .ok (.getfield 67, 3) := by decide +kernel
theorem dX11_look_191 : decode cX11_look 191 = .ok (.getfield 88, 3) := by decide +kernel
theorem dX11_look_194 : decode cX11_look 194 = .ok (.ireturn, 1) := by decide +kernel
theorem dX11_look_195 : decode cX11_look 195 = .ok (.aload_n 0, 1) := by decide +kernel
theorem dX11_look_196 : decode cX11_look 196 = .ok (.getfield 26, 3) := by decide +kernel
theorem dX11_look_199 : decode cX11_look 199 = .ok (.getfield 318, 3) := by decide +kernel
theorem dX11_look_202 : decode cX11_look 202 = .ok (.ireturn, 1) := by decide +kernel
theorem dX11_look_203 : decode cX11_look 203 = .ok (.iconst (-1), 1) := by decide +kernel
theorem dX11_look_204 : decode cX11_look 204 = .ok (.ireturn, 1) := by decide +kernel
theorem dX11_traitCan_0 : decode cX11_traitCan 0 = .ok (.iload_n 0, 1) := by decide +kernel
theorem dX11_traitCan_1 : decode cX11_traitCan 1 = .ok (.tableswitch 96 0 3 #[31, 48, 64, 80], 31) := by decide +kernel
theorem dX11_traitCan_32 : decode cX11_traitCan 32 = .ok (.iload_n 1, 1) := by decide +kernel
theorem dX11_traitCan_33 : decode cX11_traitCan 33 = .ok (.ifCond .lt 14, 3) := by decide +kernel
theorem dX11_traitCan_36 : decode cX11_traitCan 36 = .ok (.iload_n 1, 1) := by decide +kernel
theorem dX11_traitCan_37 : decode cX11_traitCan 37 = .ok (.sipush 255, 3) := by decide +kernel
theorem dX11_traitCan_40 : decode cX11_traitCan 40 = .ok (.if_icmp .gt 7, 3) := by decide +kernel
theorem dX11_traitCan_43 : decode cX11_traitCan 43 = .ok (.iconst 1, 1) := by decide +kernel
theorem dX11_traitCan_44 : decode cX11_traitCan 44 = .ok (.goto 4, 3) := by decide +kernel
theorem dX11_traitCan_47 : decode cX11_traitCan 47 = .ok (.iconst 0, 1) := by decide +kernel
theorem dX11_traitCan_48 : decode cX11_traitCan 48 = .ok (.ireturn, 1) := by decide +kernel
theorem dX11_traitCan_49 : decode cX11_traitCan 49 = .ok (.iload_n 1, 1) := by decide +kernel
theorem dX11_traitCan_50 : decode cX11_traitCan 50 = .ok (.iconst (-1), 1) := by decide +kernel
theorem dX11_traitCan_51 : decode cX11_traitCan 51 = .ok (.if_icmp .lt 12, 3) := by decide +kernel
theorem dX11_traitCan_54 : decode cX11_traitCan 54 = .ok (.iload_n 1, 1) := by decide +kernel
theorem dX11_traitCan_55 : decode cX11_traitCan 55 = .ok (.iconst 1, 1) := by decide +kernel
theorem dX11_traitCan_56 : decode cX11_traitCan 56 = .ok (.if_icmp .gt 7, 3) := by decide +kernel
theorem dX11_traitCan_59 : decode cX11_traitCan 59 = .ok (.iconst 1, 1) := by decide +kernel
theorem dX11_traitCan_60 : decode cX11_traitCan 60 = .ok (.goto 4, 3) := by decide +kernel
theorem dX11_traitCan_63 : decode cX11_traitCan 63 = .ok (.iconst 0, 1) := by decide +kernel
theorem dX11_traitCan_64 : decode cX11_traitCan 64 = .ok (.ireturn, 1) := by decide +kernel
theorem dX11_traitCan_65 : decode cX11_traitCan 65 = .ok (.iload_n 1, 1) := by decide +kernel
theorem dX11_traitCan_66 : decode cX11_traitCan 66 = .ok (.ifCond .lt 13, 3) := by decide +kernel
theorem dX11_traitCan_69 : decode cX11_traitCan 69 = .ok (.iload_n 1, 1) := by decide +kernel
theorem dX11_traitCan_70 : decode cX11_traitCan 70 = .ok (.bipush 12, 2) := by decide +kernel
theorem dX11_traitCan_72 : decode cX11_traitCan 72 = .ok (.if_icmp .ge 7, 3) := by decide +kernel
theorem dX11_traitCan_75 : decode cX11_traitCan 75 = .ok (.iconst 1, 1) := by decide +kernel
theorem dX11_traitCan_76 : decode cX11_traitCan 76 = .ok (.goto 4, 3) := by decide +kernel
theorem dX11_traitCan_79 : decode cX11_traitCan 79 = .ok (.iconst 0, 1) := by decide +kernel
theorem dX11_traitCan_80 : decode cX11_traitCan 80 = .ok (.ireturn, 1) := by decide +kernel
theorem dX11_traitCan_81 : decode cX11_traitCan 81 = .ok (.iload_n 1, 1) := by decide +kernel
theorem dX11_traitCan_82 : decode cX11_traitCan 82 = .ok (.ifCond .lt 13, 3) := by decide +kernel
theorem dX11_traitCan_85 : decode cX11_traitCan 85 = .ok (.iload_n 1, 1) := by decide +kernel
theorem dX11_traitCan_86 : decode cX11_traitCan 86 = .ok (.bipush 9, 2) := by decide +kernel
theorem dX11_traitCan_88 : decode cX11_traitCan 88 = .ok (.if_icmp .gt 7, 3) := by decide +kernel
theorem dX11_traitCan_91 : decode cX11_traitCan 91 = .ok (.iconst 1, 1) := by decide +kernel
theorem dX11_traitCan_92 : decode cX11_traitCan 92 = .ok (.goto 4, 3) := by decide +kernel
theorem dX11_traitCan_95 : decode cX11_traitCan 95 = .ok (.iconst 0, 1) := by decide +kernel
theorem dX11_traitCan_96 : decode cX11_traitCan 96 = .ok (.ireturn, 1) := by decide +kernel
theorem dX11_traitCan_97 : decode cX11_traitCan 97 = .ok (.iconst 0, 1) := by decide +kernel
theorem dX11_traitCan_98 : decode cX11_traitCan 98 = .ok (.ireturn, 1) := by decide +kernel
theorem dX11_unlikeBills_0 : decode cX11_unlikeBills 0 = .ok (.iload_n 0, 1) := by decide +kernel
theorem dX11_unlikeBills_1 : decode cX11_unlikeBills 1 = .ok (.ifCond .lt 28, 3) := by decide +kernel
theorem dX11_unlikeBills_4 : decode cX11_unlikeBills 4 = .ok (.iload_n 0, 1) := by decide +kernel
theorem dX11_unlikeBills_5 : decode cX11_unlikeBills 5 = .ok (.bipush 8, 2) := by decide +kernel
theorem dX11_unlikeBills_7 : decode cX11_unlikeBills 7 = .ok (.if_icmp .ge 22, 3) := by decide +kernel
theorem dX11_unlikeBills_10 : decode cX11_unlikeBills 10 = .ok (.iload_n 1, 1) := by decide +kernel
theorem dX11_unlikeBills_11 : decode cX11_unlikeBills 11 = .ok (.ifCond .lt 18, 3) := by decide +kernel
theorem dX11_unlikeBills_14 : decode cX11_unlikeBills 14 = .ok (.iload_n 1, 1) := by decide +kernel
theorem dX11_unlikeBills_15 : decode cX11_unlikeBills 15 = .ok (.bipush 8, 2) := by decide +kernel
theorem dX11_unlikeBills_17 : decode cX11_unlikeBills 17 = .ok (.if_icmp .ge 12, 3) := by decide +kernel
theorem dX11_unlikeBills_20 : decode cX11_unlikeBills 20 = .ok (.iload_n 0, 1) := by decide +kernel
theorem dX11_unlikeBills_21 : decode cX11_unlikeBills 21 = .ok (.iload_n 1, 1) := by decide +kernel
theorem dX11_unlikeBills_22 : decode cX11_unlikeBills 22 = .ok (.if_icmp .eq 7, 3) := by decide +kernel
theorem dX11_unlikeBills_25 : decode cX11_unlikeBills 25 = .ok (.iconst 1, 1) := by decide +kernel
theorem dX11_unlikeBills_26 : decode cX11_unlikeBills 26 = .ok (.goto 4, 3) := by decide +kernel
theorem dX11_unlikeBills_29 : decode cX11_unlikeBills 29 = .ok (.iconst 0, 1) := by decide +kernel
theorem dX11_unlikeBills_30 : decode cX11_unlikeBills 30 = .ok (.ireturn, 1) := by decide +kernel
theorem dX11_cellAt_0 : decode cX11_cellAt 0 = .ok (.iload_n 0, 1) := by decide +kernel
theorem dX11_cellAt_1 : decode cX11_cellAt 1 = .ok (.ifCond .lt 23, 3) := by decide +kernel
theorem dX11_cellAt_4 : decode cX11_cellAt 4 = .ok (.iload_n 0, 1) := by decide +kernel
theorem dX11_cellAt_5 : decode cX11_cellAt 5 = .ok (.bipush 12, 2) := by decide +kernel
theorem dX11_cellAt_7 : decode cX11_cellAt 7 = .ok (.if_icmp .ge 17, 3) := by decide +kernel
theorem dX11_cellAt_10 : decode cX11_cellAt 10 = .ok (.iload_n 1, 1) := by decide +kernel
theorem dX11_cellAt_11 : decode cX11_cellAt 11 = .ok (.ifCond .lt 13, 3) := by decide +kernel
theorem dX11_cellAt_14 : decode cX11_cellAt 14 = .ok (.iload_n 1, 1) := by decide +kernel
theorem dX11_cellAt_15 : decode cX11_cellAt 15 = .ok (.bipush 12, 2) := by decide +kernel
theorem dX11_cellAt_17 : decode cX11_cellAt 17 = .ok (.if_icmp .ge 7, 3) := by decide +kernel
theorem dX11_cellAt_20 : decode cX11_cellAt 20 = .ok (.iconst 1, 1) := by decide +kernel
theorem dX11_cellAt_21 : decode cX11_cellAt 21 = .ok (.goto 4, 3) := by decide +kernel
theorem dX11_cellAt_24 : decode cX11_cellAt 24 = .ok (.iconst 0, 1) := by decide +kernel
theorem dX11_cellAt_25 : decode cX11_cellAt 25 = .ok (.istore_n 2, 1) := by decide +kernel
theorem dX11_cellAt_26 : decode cX11_cellAt 26 = .ok (.iload_n 2, 1) := by decide +kernel
theorem dX11_cellAt_27 : decode cX11_cellAt 27 = .ok (.ifCond .eq 12, 3) := by decide +kernel
theorem dX11_cellAt_30 : decode cX11_cellAt 30 = .ok (.iload_n 0, 1) := by decide +kernel
theorem dX11_cellAt_31 : decode cX11_cellAt 31 = .ok (.bipush 12, 2) := by decide +kernel
theorem dX11_cellAt_33 : decode cX11_cellAt 33 = .ok (.imul, 1) := by decide +kernel
theorem dX11_cellAt_34 : decode cX11_cellAt 34 = .ok (.iload_n 1, 1) := by decide +kernel
theorem dX11_cellAt_35 : decode cX11_cellAt 35 = .ok (.iadd, 1) := by decide +kernel
theorem dX11_cellAt_36 : decode cX11_cellAt 36 = .ok (.goto 4, 3) := by decide +kernel
theorem dX11_cellAt_39 : decode cX11_cellAt 39 = .ok (.iconst (-1), 1) := by decide +kernel
theorem dX11_cellAt_40 : decode cX11_cellAt 40 = .ok (.ireturn, 1) := by decide +kernel
theorem dX12_init_0 : decode cX12_init 0 = .ok (.aload_n 0, 1) := by decide +kernel
theorem dX12_init_1 : decode cX12_init 1 = .ok (.invokespecial 1, 3) := by decide +kernel
theorem dX12_init_4 : decode cX12_init 4 = .ok (.aload_n 0, 1) := by decide +kernel
theorem dX12_init_5 : decode cX12_init 5 = .ok (.sipush 499, 3) := by decide +kernel
theorem dX12_init_8 : decode cX12_init 8 = .ok (.newarray .int, 2) := by decide +kernel
theorem dX12_init_10 : decode cX12_init 10 = .ok (.putfield 7, 3) := by decide +kernel
theorem dX12_init_13 : decode cX12_init 13 = .ok (.aload_n 0, 1) := by decide +kernel
theorem dX12_init_14 : decode cX12_init 14 = .ok (.sipush 2994, 3) := by decide +kernel
theorem dX12_init_17 : decode cX12_init 17 = .ok (.newarray .int, 2) := by decide +kernel
theorem dX12_init_19 : decode cX12_init 19 = .ok (.putfield 13, 3) := by decide +kernel
theorem dX12_init_22 : decode cX12_init 22 = .ok (.aload_n 0, 1) := by decide +kernel
theorem dX12_init_23 : decode cX12_init 23 = .ok (.sipush 499, 3) := by decide +kernel
theorem dX12_init_26 : decode cX12_init 26 = .ok (.newarray .int, 2) := by decide +kernel
theorem dX12_init_28 : decode cX12_init 28 = .ok (.putfield 16, 3) := by decide +kernel
theorem dX12_init_31 : decode cX12_init 31 = .ok (.aload_n 0, 1) := by decide +kernel
theorem dX12_init_32 : decode cX12_init 32 = .ok (.bipush 20, 2) := by decide +kernel
theorem dX12_init_34 : decode cX12_init 34 = .ok (.newarray .int, 2) := by decide +kernel
theorem dX12_init_36 : decode cX12_init 36 = .ok (.putfield 19, 3) := by decide +kernel
theorem dX12_init_39 : decode cX12_init 39 = .ok (.aload_n 0, 1) := by decide +kernel
theorem dX12_init_40 : decode cX12_init 40 = .ok (.bipush 20, 2) := by decide +kernel
theorem dX12_init_42 : decode cX12_init 42 = .ok (.newarray .int, 2) := by decide +kernel
theorem dX12_init_44 : decode cX12_init 44 = .ok (.putfield 22, 3) := by decide +kernel
theorem dX12_init_47 : decode cX12_init 47 = .ok (.aload_n 0, 1) := by decide +kernel
theorem dX12_init_48 : decode cX12_init 48 = .ok (.bipush 20, 2) := by decide +kernel
theorem dX12_init_50 : decode cX12_init 50 = .ok (.newarray .int, 2) := by decide +kernel
theorem dX12_init_52 : decode cX12_init 52 = .ok (.putfield 25, 3) := by decide +kernel
theorem dX12_init_55 : decode cX12_init 55 = .ok (.aload_n 0, 1) := by decide +kernel
theorem dX12_init_56 : decode cX12_init 56 = .ok (.sipush 750, 3) := by decide +kernel
theorem dX12_init_59 : decode cX12_init 59 = .ok (.newarray .int, 2) := by decide +kernel
theorem dX12_init_61 : decode cX12_init 61 = .ok (.putfield 28, 3) := by decide +kernel
theorem dX12_init_64 : decode cX12_init 64 = .ok (.aload_n 0, 1) := by decide +kernel
theorem dX12_init_65 : decode cX12_init 65 = .ok (.sipush 400, 3) := by decide +kernel
theorem dX12_init_68 : decode cX12_init 68 = .ok (.newarray .int, 2) := by decide +kernel
theorem dX12_init_70 : decode cX12_init 70 = .ok (.putfield 31, 3) := by decide +kernel
theorem dX12_init_73 : decode cX12_init 73 = .ok (.aload_n 0, 1) := by decide +kernel
theorem dX12_init_74 : decode cX12_init 74 = .ok (.sipush 133, 3) := by decide +kernel
theorem dX12_init_77 : decode cX12_init 77 = .ok (.newarray .int, 2) := by decide +kernel
theorem dX12_init_79 : decode cX12_init 79 = .ok (.dup, 1) := by decide +kernel
theorem dX12_init_80 : decode cX12_init 80 = .ok (.iconst 0, 1) := by decide +kernel
theorem dX12_init_81 : decode cX12_init 81 = .ok (.bipush 32, 2) := by decide +kernel
theorem dX12_init_83 : decode cX12_init 83 = .ok (.iastore, 1) := by decide +kernel
theorem dX12_init_84 : decode cX12_init 84 = .ok (.dup, 1) := by decide +kernel
theorem dX12_init_85 : decode cX12_init 85 = .ok (.iconst 1, 1) := by decide +kernel
theorem dX12_init_86 : decode cX12_init 86 = .ok (.bipush 99, 2) := by decide +kernel
theorem dX12_init_88 : decode cX12_init 88 = .ok (.iastore, 1) := by decide +kernel
theorem dX12_init_89 : decode cX12_init 89 = .ok (.dup, 1) := by decide +kernel
theorem dX12_init_90 : decode cX12_init 90 = .ok (.iconst 2, 1) := by decide +kernel
theorem dX12_init_91 : decode cX12_init 91 = .ok (.bipush 111, 2) := by decide +kernel
theorem dX12_init_93 : decode cX12_init 93 = .ok (.iastore, 1) := by decide +kernel
theorem dX12_init_94 : decode cX12_init 94 = .ok (.dup, 1) := by decide +kernel
theorem dX12_init_95 : decode cX12_init 95 = .ok (.iconst 3, 1) := by decide +kernel
theorem dX12_init_96 : decode cX12_init 96 = .ok (.bipush 109, 2) := by decide +kernel
theorem dX12_init_98 : decode cX12_init 98 = .ok (.iastore, 1) := by decide +kernel
theorem dX12_init_99 : decode cX12_init 99 = .ok (.dup, 1) := by decide +kernel
theorem dX12_init_100 : decode cX12_init 100 = .ok (.iconst 4, 1) := by decide +kernel
theorem dX12_init_101 : decode cX12_init 101 = .ok (.bipush 101, 2) := by decide +kernel
theorem dX12_init_103 : decode cX12_init 103 = .ok (.iastore, 1) := by decide +kernel
theorem dX12_init_104 : decode cX12_init 104 = .ok (.dup, 1) := by decide +kernel
theorem dX12_init_105 : decode cX12_init 105 = .ok (.iconst 5, 1) := by decide +kernel
theorem dX12_init_106 : decode cX12_init 106 = .ok (.bipush 115, 2) := by decide +kernel
theorem dX12_init_108 : decode cX12_init 108 = .ok (.iastore, 1) := by decide +kernel
theorem dX12_init_109 : decode cX12_init 109 = .ok (.dup, 1) := by decide +kernel
theorem dX12_init_110 : decode cX12_init 110 = .ok (.bipush 6, 2) := by decide +kernel
theorem dX12_init_112 : decode cX12_init 112 = .ok (.bipush 32, 2) := by decide +kernel
theorem dX12_init_114 : decode cX12_init 114 = .ok (.iastore, 1) := by decide +kernel
theorem dX12_init_115 : decode cX12_init 115 = .ok (.dup, 1) := by decide +kernel
theorem dX12_init_116 : decode cX12_init 116 = .ok (.bipush 7, 2) := by decide +kernel
theorem dX12_init_118 : decode cX12_init 118 = .ok (.bipush 109, 2) := by decide +kernel
theorem dX12_init_120 : decode cX12_init 120 = .ok (.iastore, 1) := by decide +kernel
theorem dX12_init_121 : decode cX12_init 121 = .ok (.dup, 1) := by decide +kernel
theorem dX12_init_122 : decode cX12_init 122 = .ok (.bipush 8, 2) := by decide +kernel
theorem dX12_init_124 : decode cX12_init 124 = .ok (.bipush 101, 2) := by decide +kernel
theorem dX12_init_126 : decode cX12_init 126 = .ok (.iastore, 1) := by decide +kernel
theorem dX12_init_127 : decode cX12_init 127 = .ok (.dup, 1) := by decide +kernel
theorem dX12_init_128 : decode cX12_init 128 = .ok (.bipush 9, 2) := by decide +kernel
theorem dX12_init_130 : decode cX12_init 130 = .ok (.bipush 108, 2) := by decide +kernel
theorem dX12_init_132 : decode cX12_init 132 = .ok (.iastore, 1) := by decide +kernel
theorem dX12_init_133 : decode cX12_init 133 = .ok (.dup, 1) := by decide +kernel
theorem dX12_init_134 : decode cX12_init 134 = .ok (.bipush 10, 2) := by decide +kernel
theorem dX12_init_136 : decode cX12_init 136 = .ok (.bipush 116, 2) := by decide +kernel
theorem dX12_init_138 : decode cX12_init 138 = .ok (.iastore, 1) := by decide +kernel
theorem dX12_init_139 : decode cX12_init 139 = .ok (.dup, 1) := by decide +kernel
theorem dX12_init_140 : decode cX12_init 140 = .ok (.bipush 11, 2) := by decide +kernel
theorem dX12_init_142 : decode cX12_init 142 = .ok (.bipush 115, 2) := by decide +kernel
theorem dX12_init_144 : decode cX12_init 144 = .ok (.iastore, 1) := by decide +kernel
theorem dX12_init_145 : decode cX12_init 145 = .ok (.dup, 1) := by decide +kernel
theorem dX12_init_146 : decode cX12_init 146 = .ok (.bipush 12, 2) := by decide +kernel
theorem dX12_init_148 : decode cX12_init 148 = .ok (.bipush 32, 2) := by decide +kernel
theorem dX12_init_150 : decode cX12_init 150 = .ok (.iastore, 1) := by decide +kernel
theorem dX12_init_151 : decode cX12_init 151 = .ok (.dup, 1) := by decide +kernel
theorem dX12_init_152 : decode cX12_init 152 = .ok (.bipush 13, 2) := by decide +kernel
theorem dX12_init_154 : decode cX12_init 154 = .ok (.bipush 119, 2) := by decide +kernel
theorem dX12_init_156 : decode cX12_init 156 = .ok (.iastore, 1) := by decide +kernel
theorem dX12_init_157 : decode cX12_init 157 = .ok (.dup, 1) := by decide +kernel
theorem dX12_init_158 : decode cX12_init 158 = .ok (.bipush 14, 2) := by decide +kernel
theorem dX12_init_160 : decode cX12_init 160 = .ok (.bipush 101, 2) := by decide +kernel
theorem dX12_init_162 : decode cX12_init 162 = .ok (.iastore, 1) := by decide +kernel
theorem dX12_init_163 : decode cX12_init 163 = .ok (.dup, 1) := by decide +kernel
theorem dX12_init_164 : decode cX12_init 164 = .ok (.bipush 15, 2) := by decide +kernel
theorem dX12_init_166 : decode cX12_init 166 = .ok (.bipush 105, 2) := by decide +kernel
theorem dX12_init_168 : decode cX12_init 168 = .ok (.iastore, 1) := by decide +kernel
theorem dX12_init_169 : decode cX12_init 169 = .ok (.dup, 1) := by decide +kernel
theorem dX12_init_170 : decode cX12_init 170 = .ok (.bipush 16, 2) := by decide +kernel
theorem dX12_init_172 : decode cX12_init 172 = .ok (.bipush 103, 2) := by decide +kernel
theorem dX12_init_174 : decode cX12_init 174 = .ok (.iastore, 1) := by decide +kernel
theorem dX12_init_175 : decode cX12_init 175 = .ok (.dup, 1) := by decide +kernel
theorem dX12_init_176 : decode cX12_init 176 = .ok (.bipush 17, 2) := by decide +kernel
theorem dX12_init_178 : decode cX12_init 178 = .ok (.bipush 104, 2) := by decide +kernel
theorem dX12_init_180 : decode cX12_init 180 = .ok (.iastore, 1) := by decide +kernel
theorem dX12_init_181 : decode cX12_init 181 = .ok (.dup, 1) := by decide +kernel
theorem dX12_init_182 : decode cX12_init 182 = .ok (.bipush 18, 2) := by decide +kernel
theorem dX12_init_184 : decode cX12_init 184 = .ok (.bipush 115, 2) := by decide +kernel
theorem dX12_init_186 : decode cX12_init 186 = .ok (.iastore, 1) := by decide +kernel
theorem dX12_init_187 : decode cX12_init 187 = .ok (.dup, 1) := by decide +kernel
theorem dX12_init_188 : decode cX12_init 188 = .ok (.bipush 19, 2) := by decide +kernel
theorem dX12_init_190 : decode cX12_init 190 = .ok (.bipush 32, 2) := by decide +kernel
theorem dX12_init_192 : decode cX12_init 192 = .ok (.iastore, 1) := by decide +kernel
theorem dX12_init_193 : decode cX12_init 193 = .ok (.dup, 1) := by decide +kernel
theorem dX12_init_194 : decode cX12_init 194 = .ok (.bipush 20, 2) := by decide +kernel
theorem dX12_init_196 : decode cX12_init 196 = .ok (.bipush 119, 2) := by decide +kernel
theorem dX12_init_198 : decode cX12_init 198 = .ok (.iastore, 1) := by decide +kernel
theorem dX12_init_199 : decode cX12_init 199 = .ok (.dup, 1) := by decide +kernel
theorem dX12_init_200 : decode cX12_init 200 = .ok (.bipush 21, 2) := by decide +kernel
theorem dX12_init_202 : decode cX12_init 202 = .ok (.bipush 104, 2) := by decide +kernel
theorem dX12_init_204 : decode cX12_init 204 = .ok (.iastore, 1) := by decide +kernel
theorem dX12_init_205 : decode cX12_init 205 = .ok (.dup, 1) := by decide +kernel
theorem dX12_init_206 : decode cX12_init 206 = .ok (.bipush 22, 2) := by decide +kernel
theorem dX12_init_208 : decode cX12_init 208 = .ok (.bipush 101, 2) := by decide +kernel
theorem dX12_init_210 : decode cX12_init 210 = .ok (.iastore, 1) := by decide +kernel
theorem dX12_init_211 : decode cX12_init 211 = .ok (.dup, 1) := by decide +kernel
theorem dX12_init_212 : decode cX12_init 212 = .ok (.bipush 23, 2) := by decide +kernel
theorem dX12_init_214 : decode cX12_init 214 = .ok (.bipush 110, 2) := by decide +kernel
theorem dX12_init_216 : decode cX12_init 216 = .ok (.iastore, 1) := by decide +kernel
theorem dX12_init_217 : decode cX12_init 217 = .ok (.dup, 1) := by decide +kernel
theorem dX12_init_218 : decode cX12_init 218 = .ok (.bipush 24, 2) := by decide +kernel
theorem dX12_init_220 : decode cX12_init 220 = .ok (.bipush 32, 2) := by decide +kernel
theorem dX12_init_222 : decode cX12_init 222 = .ok (.iastore, 1) := by decide +kernel
theorem dX12_init_223 : decode cX12_init 223 = .ok (.dup, 1) := by decide +kernel
theorem dX12_init_224 : decode cX12_init 224 = .ok (.bipush 25, 2) := by decide +kernel
theorem dX12_init_226 : decode cX12_init 226 = .ok (.bipush 111, 2) := by decide +kernel
theorem dX12_init_228 : decode cX12_init 228 = .ok (.iastore, 1) := by decide +kernel
theorem dX12_init_229 : decode cX12_init 229 = .ok (.dup, 1) := by decide +kernel
theorem dX12_init_230 : decode cX12_init 230 = .ok (.bipush 26, 2) := by decide +kernel
theorem dX12_init_232 : decode cX12_init 232 = .ok (.bipush 114, 2) := by decide +kernel
theorem dX12_init_234 : decode cX12_init 234 = .ok (.iastore, 1) := by decide +kernel
theorem dX12_init_235 : decode cX12_init 235 = .ok (.dup, 1) := by decide +kernel
theorem dX12_init_236 : decode cX12_init 236 = .ok (.bipush 27, 2) := by decide +kernel
theorem dX12_init_238 : decode cX12_init 238 = .ok (.bipush 32, 2) := by decide +kernel
theorem dX12_init_240 : decode cX12_init 240 = .ok (.iastore, 1) := by decide +kernel
theorem dX12_init_241 : decode cX12_init 241 = .ok (.dup, 1) := by decide +kernel
theorem dX12_init_242 : decode cX12_init 242 = .ok (.bipush 28, 2) := by decide +kernel
theorem dX12_init_244 : decode cX12_init 244 = .ok (.bipush 97, 2) := by decide +kernel
theorem dX12_init_246 : decode cX12_init 246 = .ok (.iastore, 1) := by decide +kernel
theorem dX12_init_247 : decode cX12_init 247 = .ok (.dup, 1) := by decide +kernel
theorem dX12_init_248 : decode cX12_init 248 = .ok (.bipush 29, 2) := by decide +kernel
theorem dX12_init_250 : decode cX12_init 250 = .ok (.bipush 110, 2) := by decide +kernel
theorem dX12_init_252 : decode cX12_init 252 = .ok (.iastore, 1) := by decide +kernel
theorem dX12_init_253 : decode cX12_init 253 = .ok (.dup, 1) := by decide +kernel
theorem dX12_init_254 : decode cX12_init 254 = .ok (.bipush 30, 2) := by decide +kernel
theorem dX12_init_256 : decode cX12_init 256 = .ok (.bipush 100, 2) := by decide +kernel
theorem dX12_init_258 : decode cX12_init 258 = .ok (.iastore, 1) := by decide +kernel
theorem dX12_init_259 : decode cX12_init 259 = .ok (.dup, 1) := by decide +kernel
theorem dX12_init_260 : decode cX12_init 260 = .ok (.bipush 31, 2) := by decide +kernel
theorem dX12_init_262 : decode cX12_init 262 = .ok (.bipush 32, 2) := by decide +kernel
theorem dX12_init_264 : decode cX12_init 264 = .ok (.iastore, 1) := by decide +kernel
theorem dX12_init_265 : decode cX12_init 265 = .ok (.dup, 1) := by decide +kernel
theorem dX12_init_266 : decode cX12_init 266 = .ok (.bipush 32, 2) := by decide +kernel
theorem dX12_init_268 : decode cX12_init 268 = .ok (.bipush 110, 2) := by decide +kernel
theorem dX12_init_270 : decode cX12_init 270 = .ok (.iastore, 1) := by decide +kernel
theorem dX12_init_271 : decode cX12_init 271 = .ok (.dup, 1) := by decide +kernel
theorem dX12_init_272 : decode cX12_init 272 = .ok (.bipush 33, 2) := by decide +kernel
theorem dX12_init_274 : decode cX12_init 274 = .ok (.bipush 111, 2) := by decide +kernel
theorem dX12_init_276 : decode cX12_init 276 = .ok (.iastore, 1) := by decide +kernel
theorem dX12_init_277 : decode cX12_init 277 = .ok (.dup, 1) := by decide +kernel
theorem dX12_init_278 : decode cX12_init 278 = .ok (.bipush 34, 2) := by decide +kernel
theorem dX12_init_280 : decode cX12_init 280 = .ok (.bipush 116, 2) := by decide +kernel
theorem dX12_init_282 : decode cX12_init 282 = .ok (.iastore, 1) := by decide +kernel
theorem dX12_init_283 : decode cX12_init 283 = .ok (.dup, 1) := by decide +kernel
theorem dX12_init_284 : decode cX12_init 284 = .ok (.bipush 35, 2) := by decide +kernel
theorem dX12_init_286 : decode cX12_init 286 = .ok (.bipush 32, 2) := by decide +kernel
theorem dX12_init_288 : decode cX12_init 288 = .ok (.iastore, 1) := by decide +kernel
theorem dX12_init_289 : decode cX12_init 289 = .ok (.dup, 1) := by decide +kernel
theorem dX12_init_290 : decode cX12_init 290 = .ok (.bipush 36, 2) := by decide +kernel
theorem dX12_init_292 : decode cX12_init 292 = .ok (.bipush 109, 2) := by decide +kernel
theorem dX12_init_294 : decode cX12_init 294 = .ok (.iastore, 1) := by decide +kernel
theorem dX12_init_295 : decode cX12_init 295 = .ok (.dup, 1) := by decide +kernel
theorem dX12_init_296 : decode cX12_init 296 = .ok (.bipush 37, 2) := by decide +kernel
theorem dX12_init_298 : decode cX12_init 298 = .ok (.bipush 105, 2) := by decide +kernel
theorem dX12_init_300 : decode cX12_init 300 = .ok (.iastore, 1) := by decide +kernel
theorem dX12_init_301 : decode cX12_init 301 = .ok (.dup, 1) := by decide +kernel
theorem dX12_init_302 : decode cX12_init 302 = .ok (.bipush 38, 2) := by decide +kernel
theorem dX12_init_304 : decode cX12_init 304 = .ok (.bipush 110, 2) := by decide +kernel
theorem dX12_init_306 : decode cX12_init 306 = .ok (.iastore, 1) := by decide +kernel
theorem dX12_init_307 : decode cX12_init 307 = .ok (.dup, 1) := by decide +kernel
theorem dX12_init_308 : decode cX12_init 308 = .ok (.bipush 39, 2) := by decide +kernel
theorem dX12_init_310 : decode cX12_init 310 = .ok (.bipush 100, 2) := by decide +kernel
theorem dX12_init_312 : decode cX12_init 312 = .ok (.iastore, 1) := by decide +kernel
theorem dX12_init_313 : decode cX12_init 313 = .ok (.dup, 1) := by decide +kernel
theorem dX12_init_314 : decode cX12_init 314 = .ok (.bipush 40, 2) := by decide +kernel
theorem dX12_init_316 : decode cX12_init 316 = .ok (.bipush 32, 2) := by decide +kernel
theorem dX12_init_318 : decode cX12_init 318 = .ok (.iastore, 1) := by decide +kernel
theorem dX12_init_319 : decode cX12_init 319 = .ok (.dup, 1) := by decide +kernel
theorem dX12_init_320 : decode cX12_init 320 = .ok (.bipush 41, 2) := by decide +kernel
theorem dX12_init_322 : decode cX12_init 322 = .ok (.bipush 112, 2) := by decide +kernel
theorem dX12_init_324 : decode cX12_init 324 = .ok (.iastore, 1) := by decide +kernel
theorem dX12_init_325 : decode cX12_init 325 = .ok (.dup, 1) := by decide +kernel
theorem dX12_init_326 : decode cX12_init 326 = .ok (.bipush 42, 2) := by decide +kernel
theorem dX12_init_328 : decode cX12_init 328 = .ok (.bipush 114, 2) := by decide +kernel
theorem dX12_init_330 : decode cX12_init 330 = .ok (.iastore, 1) := by decide +kernel
theorem dX12_init_331 : decode cX12_init 331 = .ok (.dup, 1) := by decide +kernel
theorem dX12_init_332 : decode cX12_init 332 = .ok (.bipush 43, 2) := by decide +kernel
theorem dX12_init_334 : decode cX12_init 334 = .ok (.bipush 101, 2) := by decide +kernel
theorem dX12_init_336 : decode cX12_init 336 = .ok (.iastore, 1) := by decide +kernel
theorem dX12_init_337 : decode cX12_init 337 = .ok (.dup, 1) := by decide +kernel
theorem dX12_init_338 : decode cX12_init 338 = .ok (.bipush 44, 2) := by decide +kernel
theorem dX12_init_340 : decode cX12_init 340 = .ok (.bipush 115, 2) := by decide +kernel
theorem dX12_init_342 : decode cX12_init 342 = .ok (.iastore, 1) := by decide +kernel
theorem dX12_init_343 : decode cX12_init 343 = .ok (.dup, 1) := by decide +kernel
theorem dX12_init_344 : decode cX12_init 344 = .ok (.bipush 45, 2) := by decide +kernel
theorem dX12_init_346 : decode cX12_init 346 = .ok (.bipush 115, 2) := by decide +kernel
theorem dX12_init_348 : decode cX12_init 348 = .ok (.iastore, 1) := by decide +kernel
theorem dX12_init_349 : decode cX12_init 349 = .ok (.dup, 1) := by decide +kernel
theorem dX12_init_350 : decode cX12_init 350 = .ok (.bipush 46, 2) := by decide +kernel
theorem dX12_init_352 : decode cX12_init 352 = .ok (.bipush 32, 2) := by decide +kernel
theorem dX12_init_354 : decode cX12_init 354 = .ok (.iastore, 1) := by decide +kernel
theorem dX12_init_355 : decode cX12_init 355 = .ok (.dup, 1) := by decide +kernel
theorem dX12_init_356 : decode cX12_init 356 = .ok (.bipush 47, 2) := by decide +kernel
theorem dX12_init_358 : decode cX12_init 358 = .ok (.bipush 104, 2) := by decide +kernel
theorem dX12_init_360 : decode cX12_init 360 = .ok (.iastore, 1) := by decide +kernel
theorem dX12_init_361 : decode cX12_init 361 = .ok (.dup, 1) := by decide +kernel
theorem dX12_init_362 : decode cX12_init 362 = .ok (.bipush 48, 2) := by decide +kernel
theorem dX12_init_364 : decode cX12_init 364 = .ok (.bipush 101, 2) := by decide +kernel
theorem dX12_init_366 : decode cX12_init 366 = .ok (.iastore, 1) := by decide +kernel
theorem dX12_init_367 : decode cX12_init 367 = .ok (.dup, 1) := by decide +kernel
theorem dX12_init_368 : decode cX12_init 368 = .ok (.bipush 49, 2) := by decide +kernel
theorem dX12_init_370 : decode cX12_init 370 = .ok (.bipush 105, 2) := by decide +kernel
theorem dX12_init_372 : decode cX12_init 372 = .ok (.iastore, 1) := by decide +kernel
theorem dX12_init_373 : decode cX12_init 373 = .ok (.dup, 1) := by decide +kernel
theorem dX12_init_374 : decode cX12_init 374 = .ok (.bipush 50, 2) := by decide +kernel

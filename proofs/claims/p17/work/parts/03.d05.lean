theorem dk_d05_517 : dkc cX12_cell [(126, .aload_n 0, 1), (127, .iload 4, 2), (129, .invokevirtual 353, 3), (132, .ireturn, 1)] = true := by decide +kernel
theorem dX12_cell_126 : decode cX12_cell 126 = .ok (.aload_n 0, 1) := dk_get dk_d05_517 0 rfl
theorem dX12_cell_127 : decode cX12_cell 127 = .ok (.iload 4, 2) := dk_get dk_d05_517 1 rfl
theorem dX12_cell_129 : decode cX12_cell 129 = .ok (.invokevirtual 353, 3) := dk_get dk_d05_517 2 rfl
theorem dX12_cell_132 : decode cX12_cell 132 = .ok (.ireturn, 1) := dk_get dk_d05_517 3 rfl
theorem dk_d05_518 : dkc cX12_book [(0, .aload_n 0, 1), (1, .iconst 0, 1), (2, .putfield 140, 3), (5, .aload_n 0, 1), (6, .iload_n 1, 1), (7, .iconst 0, 1), (8, .aload_n 0, 1), (9, .getfield 7, 3), (12, .iconst 3, 1), (13, .iaload, 1), (14, .iconst 1, 1), (15, .isub, 1), (16, .invokevirtual 155, 3), (19, .ifCond .eq 26, 3), (22, .aload_n 0, 1), (23, .iload_n 2, 1), (24, .iconst 0, 1), (25, .iconst 4, 1), (26, .invokevirtual 155, 3), (29, .ifCond .eq 16, 3), (32, .aload_n 0, 1), (33, .getfield 28, 3), (36, .iconst 5, 1), (37, .iload_n 1, 1), (38, .imul, 1)] = true := by decide +kernel
theorem dX12_book_0 : decode cX12_book 0 = .ok (.aload_n 0, 1) := dk_get dk_d05_518 0 rfl
theorem dX12_book_1 : decode cX12_book 1 = .ok (.iconst 0, 1) := dk_get dk_d05_518 1 rfl
theorem dX12_book_2 : decode cX12_book 2 = .ok (.putfield 140, 3) := dk_get dk_d05_518 2 rfl
theorem dX12_book_5 : decode cX12_book 5 = .ok (.aload_n 0, 1) := dk_get dk_d05_518 3 rfl
theorem dX12_book_6 : decode cX12_book 6 = .ok (.iload_n 1, 1) := dk_get dk_d05_518 4 rfl
theorem dX12_book_7 : decode cX12_book 7 = .ok (.iconst 0, 1) := dk_get dk_d05_518 5 rfl
theorem dX12_book_8 : decode cX12_book 8 = .ok (.aload_n 0, 1) := dk_get dk_d05_518 6 rfl
theorem dX12_book_9 : decode cX12_book 9 = .ok (.getfield 7, 3) := dk_get dk_d05_518 7 rfl
theorem dX12_book_12 : decode cX12_book 12 = .ok (.iconst 3, 1) := dk_get dk_d05_518 8 rfl
theorem dX12_book_13 : decode cX12_book 13 = .ok (.iaload, 1) := dk_get dk_d05_518 9 rfl
theorem dX12_book_14 : decode cX12_book 14 = .ok (.iconst 1, 1) := dk_get dk_d05_518 10 rfl
theorem dX12_book_15 : decode cX12_book 15 = .ok (.isub, 1) := dk_get dk_d05_518 11 rfl
theorem dX12_book_16 : decode cX12_book 16 = .ok (.invokevirtual 155, 3) := dk_get dk_d05_518 12 rfl
theorem dX12_book_19 : decode cX12_book 19 = .ok (.ifCond .eq 26, 3) := dk_get dk_d05_518 13 rfl
theorem dX12_book_22 : decode cX12_book 22 = .ok (.aload_n 0, 1) := dk_get dk_d05_518 14 rfl
theorem dX12_book_23 : decode cX12_book 23 = .ok (.iload_n 2, 1) := dk_get dk_d05_518 15 rfl
theorem dX12_book_24 : decode cX12_book 24 = .ok (.iconst 0, 1) := dk_get dk_d05_518 16 rfl
theorem dX12_book_25 : decode cX12_book 25 = .ok (.iconst 4, 1) := dk_get dk_d05_518 17 rfl
theorem dX12_book_26 : decode cX12_book 26 = .ok (.invokevirtual 155, 3) := dk_get dk_d05_518 18 rfl
theorem dX12_book_29 : decode cX12_book 29 = .ok (.ifCond .eq 16, 3) := dk_get dk_d05_518 19 rfl
theorem dX12_book_32 : decode cX12_book 32 = .ok (.aload_n 0, 1) := dk_get dk_d05_518 20 rfl
theorem dX12_book_33 : decode cX12_book 33 = .ok (.getfield 28, 3) := dk_get dk_d05_518 21 rfl
theorem dX12_book_36 : decode cX12_book 36 = .ok (.iconst 5, 1) := dk_get dk_d05_518 22 rfl
theorem dX12_book_37 : decode cX12_book 37 = .ok (.iload_n 1, 1) := dk_get dk_d05_518 23 rfl
theorem dX12_book_38 : decode cX12_book 38 = .ok (.imul, 1) := dk_get dk_d05_518 24 rfl
theorem dk_d05_519 : dkc cX12_book [(39, .iload_n 2, 1), (40, .iadd, 1), (41, .iaload, 1), (42, .goto 6, 3), (45, .sipush (-10000), 3), (48, .ireturn, 1)] = true := by decide +kernel
theorem dX12_book_39 : decode cX12_book 39 = .ok (.iload_n 2, 1) := dk_get dk_d05_519 0 rfl
theorem dX12_book_40 : decode cX12_book 40 = .ok (.iadd, 1) := dk_get dk_d05_519 1 rfl
theorem dX12_book_41 : decode cX12_book 41 = .ok (.iaload, 1) := dk_get dk_d05_519 2 rfl
theorem dX12_book_42 : decode cX12_book 42 = .ok (.goto 6, 3) := dk_get dk_d05_519 3 rfl
theorem dX12_book_45 : decode cX12_book 45 = .ok (.sipush (-10000), 3) := dk_get dk_d05_519 4 rfl
theorem dX12_book_48 : decode cX12_book 48 = .ok (.ireturn, 1) := dk_get dk_d05_519 5 rfl
theorem dk_d05_520 : dkc cX12_markMany [(0, .iconst 0, 1), (1, .istore_n 1, 1), (2, .iconst 0, 1), (3, .istore_n 2, 1), (4, .iload_n 2, 1), (5, .sipush 144, 3), (8, .if_icmp .ge 21, 3), (11, .aload_n 0, 1), (12, .iload_n 2, 1), (13, .invokevirtual 332, 3), (16, .ifCond .eq 7, 3), (19, .iload_n 1, 1), (20, .iconst 1, 1), (21, .iadd, 1), (22, .istore_n 1, 1), (23, .iinc 2 1, 3), (26, .goto (-22), 3), (29, .iload_n 1, 1), (30, .ireturn, 1)] = true := by decide +kernel
theorem dX12_markMany_0 : decode cX12_markMany 0 = .ok (.iconst 0, 1) := dk_get dk_d05_520 0 rfl
theorem dX12_markMany_1 : decode cX12_markMany 1 = .ok (.istore_n 1, 1) := dk_get dk_d05_520 1 rfl
theorem dX12_markMany_2 : decode cX12_markMany 2 = .ok (.iconst 0, 1) := dk_get dk_d05_520 2 rfl
theorem dX12_markMany_3 : decode cX12_markMany 3 = .ok (.istore_n 2, 1) := dk_get dk_d05_520 3 rfl
theorem dX12_markMany_4 : decode cX12_markMany 4 = .ok (.iload_n 2, 1) := dk_get dk_d05_520 4 rfl
theorem dX12_markMany_5 : decode cX12_markMany 5 = .ok (.sipush 144, 3) := dk_get dk_d05_520 5 rfl
theorem dX12_markMany_8 : decode cX12_markMany 8 = .ok (.if_icmp .ge 21, 3) := dk_get dk_d05_520 6 rfl
theorem dX12_markMany_11 : decode cX12_markMany 11 = .ok (.aload_n 0, 1) := dk_get dk_d05_520 7 rfl
theorem dX12_markMany_12 : decode cX12_markMany 12 = .ok (.iload_n 2, 1) := dk_get dk_d05_520 8 rfl
theorem dX12_markMany_13 : decode cX12_markMany 13 = .ok (.invokevirtual 332, 3) := dk_get dk_d05_520 9 rfl
theorem dX12_markMany_16 : decode cX12_markMany 16 = .ok (.ifCond .eq 7, 3) := dk_get dk_d05_520 10 rfl
theorem dX12_markMany_19 : decode cX12_markMany 19 = .ok (.iload_n 1, 1) := dk_get dk_d05_520 11 rfl
theorem dX12_markMany_20 : decode cX12_markMany 20 = .ok (.iconst 1, 1) := dk_get dk_d05_520 12 rfl
theorem dX12_markMany_21 : decode cX12_markMany 21 = .ok (.iadd, 1) := dk_get dk_d05_520 13 rfl
theorem dX12_markMany_22 : decode cX12_markMany 22 = .ok (.istore_n 1, 1) := dk_get dk_d05_520 14 rfl
theorem dX12_markMany_23 : decode cX12_markMany 23 = .ok (.iinc 2 1, 3) := dk_get dk_d05_520 15 rfl
theorem dX12_markMany_26 : decode cX12_markMany 26 = .ok (.goto (-22), 3) := dk_get dk_d05_520 16 rfl
theorem dX12_markMany_29 : decode cX12_markMany 29 = .ok (.iload_n 1, 1) := dk_get dk_d05_520 17 rfl
theorem dX12_markMany_30 : decode cX12_markMany 30 = .ok (.ireturn, 1) := dk_get dk_d05_520 18 rfl
theorem dk_d05_521 : dkc cX12_goes [(0, .aload_n 0, 1), (1, .iconst 0, 1), (2, .putfield 140, 3), (5, .aload_n 0, 1), (6, .iload_n 1, 1), (7, .iconst 1, 1), (8, .bipush 60, 2), (10, .invokevirtual 155, 3), (13, .ifCond .eq 13, 3), (16, .aload_n 0, 1), (17, .iload_n 2, 1), (18, .iconst 0, 1), (19, .iconst 3, 1), (20, .invokevirtual 155, 3), (23, .ifCond .ne 7, 3), (26, .ldc_w 405, 3), (29, .ireturn, 1), (30, .aload_n 0, 1), (31, .invokevirtual 406, 3), (34, .iconst 0, 1), (35, .istore_n 3, 1), (36, .iload_n 3, 1), (37, .iload_n 1, 1), (38, .if_icmp .ge 14, 3), (41, .aload_n 0, 1)] = true := by decide +kernel
theorem dX12_goes_0 : decode cX12_goes 0 = .ok (.aload_n 0, 1) := dk_get dk_d05_521 0 rfl
theorem dX12_goes_1 : decode cX12_goes 1 = .ok (.iconst 0, 1) := dk_get dk_d05_521 1 rfl
theorem dX12_goes_2 : decode cX12_goes 2 = .ok (.putfield 140, 3) := dk_get dk_d05_521 2 rfl
theorem dX12_goes_5 : decode cX12_goes 5 = .ok (.aload_n 0, 1) := dk_get dk_d05_521 3 rfl
theorem dX12_goes_6 : decode cX12_goes 6 = .ok (.iload_n 1, 1) := dk_get dk_d05_521 4 rfl
theorem dX12_goes_7 : decode cX12_goes 7 = .ok (.iconst 1, 1) := dk_get dk_d05_521 5 rfl
theorem dX12_goes_8 : decode cX12_goes 8 = .ok (.bipush 60, 2) := dk_get dk_d05_521 6 rfl
theorem dX12_goes_10 : decode cX12_goes 10 = .ok (.invokevirtual 155, 3) := dk_get dk_d05_521 7 rfl
theorem dX12_goes_13 : decode cX12_goes 13 = .ok (.ifCond .eq 13, 3) := dk_get dk_d05_521 8 rfl
theorem dX12_goes_16 : decode cX12_goes 16 = .ok (.aload_n 0, 1) := dk_get dk_d05_521 9 rfl
theorem dX12_goes_17 : decode cX12_goes 17 = .ok (.iload_n 2, 1) := dk_get dk_d05_521 10 rfl
theorem dX12_goes_18 : decode cX12_goes 18 = .ok (.iconst 0, 1) := dk_get dk_d05_521 11 rfl
theorem dX12_goes_19 : decode cX12_goes 19 = .ok (.iconst 3, 1) := dk_get dk_d05_521 12 rfl
theorem dX12_goes_20 : decode cX12_goes 20 = .ok (.invokevirtual 155, 3) := dk_get dk_d05_521 13 rfl
theorem dX12_goes_23 : decode cX12_goes 23 = .ok (.ifCond .ne 7, 3) := dk_get dk_d05_521 14 rfl
theorem dX12_goes_26 : decode cX12_goes 26 = .ok (.ldc_w 405, 3) := dk_get dk_d05_521 15 rfl
theorem dX12_goes_29 : decode cX12_goes 29 = .ok (.ireturn, 1) := dk_get dk_d05_521 16 rfl
theorem dX12_goes_30 : decode cX12_goes 30 = .ok (.aload_n 0, 1) := dk_get dk_d05_521 17 rfl
theorem dX12_goes_31 : decode cX12_goes 31 = .ok (.invokevirtual 406, 3) := dk_get dk_d05_521 18 rfl
theorem dX12_goes_34 : decode cX12_goes 34 = .ok (.iconst 0, 1) := dk_get dk_d05_521 19 rfl
theorem dX12_goes_35 : decode cX12_goes 35 = .ok (.istore_n 3, 1) := dk_get dk_d05_521 20 rfl
theorem dX12_goes_36 : decode cX12_goes 36 = .ok (.iload_n 3, 1) := dk_get dk_d05_521 21 rfl
theorem dX12_goes_37 : decode cX12_goes 37 = .ok (.iload_n 1, 1) := dk_get dk_d05_521 22 rfl
theorem dX12_goes_38 : decode cX12_goes 38 = .ok (.if_icmp .ge 14, 3) := dk_get dk_d05_521 23 rfl
theorem dX12_goes_41 : decode cX12_goes 41 = .ok (.aload_n 0, 1) := dk_get dk_d05_521 24 rfl
theorem dk_d05_522 : dkc cX12_goes [(42, .invokevirtual 402, 3), (45, .pop, 1), (46, .iinc 3 1, 3), (49, .goto (-13), 3), (52, .iload_n 2, 1), (53, .ifCond .ne 12, 3), (56, .aload_n 0, 1), (57, .getfield 7, 3), (60, .iconst 5, 1), (61, .iaload, 1), (62, .goto 28, 3), (65, .iload_n 2, 1), (66, .iconst 1, 1), (67, .if_icmp .ne 10, 3), (70, .aload_n 0, 1), (71, .invokevirtual 409, 3), (74, .goto 16, 3), (77, .iload_n 2, 1), (78, .iconst 2, 1), (79, .if_icmp .ne 10, 3), (82, .aload_n 0, 1), (83, .invokevirtual 387, 3), (86, .goto 4, 3), (89, .iconst 0, 1), (90, .istore_n 3, 1)] = true := by decide +kernel
theorem dX12_goes_42 : decode cX12_goes 42 = .ok (.invokevirtual 402, 3) := dk_get dk_d05_522 0 rfl
theorem dX12_goes_45 : decode cX12_goes 45 = .ok (.pop, 1) := dk_get dk_d05_522 1 rfl
theorem dX12_goes_46 : decode cX12_goes 46 = .ok (.iinc 3 1, 3) := dk_get dk_d05_522 2 rfl
theorem dX12_goes_49 : decode cX12_goes 49 = .ok (.goto (-13), 3) := dk_get dk_d05_522 3 rfl
theorem dX12_goes_52 : decode cX12_goes 52 = .ok (.iload_n 2, 1) := dk_get dk_d05_522 4 rfl
theorem dX12_goes_53 : decode cX12_goes 53 = .ok (.ifCond .ne 12, 3) := dk_get dk_d05_522 5 rfl
theorem dX12_goes_56 : decode cX12_goes 56 = .ok (.aload_n 0, 1) := dk_get dk_d05_522 6 rfl
theorem dX12_goes_57 : decode cX12_goes 57 = .ok (.getfield 7, 3) := dk_get dk_d05_522 7 rfl
theorem dX12_goes_60 : decode cX12_goes 60 = .ok (.iconst 5, 1) := dk_get dk_d05_522 8 rfl
theorem dX12_goes_61 : decode cX12_goes 61 = .ok (.iaload, 1) := dk_get dk_d05_522 9 rfl
theorem dX12_goes_62 : decode cX12_goes 62 = .ok (.goto 28, 3) := dk_get dk_d05_522 10 rfl
theorem dX12_goes_65 : decode cX12_goes 65 = .ok (.iload_n 2, 1) := dk_get dk_d05_522 11 rfl
theorem dX12_goes_66 : decode cX12_goes 66 = .ok (.iconst 1, 1) := dk_get dk_d05_522 12 rfl
theorem dX12_goes_67 : decode cX12_goes 67 = .ok (.if_icmp .ne 10, 3) := dk_get dk_d05_522 13 rfl
theorem dX12_goes_70 : decode cX12_goes 70 = .ok (.aload_n 0, 1) := dk_get dk_d05_522 14 rfl
theorem dX12_goes_71 : decode cX12_goes 71 = .ok (.invokevirtual 409, 3) := dk_get dk_d05_522 15 rfl
theorem dX12_goes_74 : decode cX12_goes 74 = .ok (.goto 16, 3) := dk_get dk_d05_522 16 rfl
theorem dX12_goes_77 : decode cX12_goes 77 = .ok (.iload_n 2, 1) := dk_get dk_d05_522 17 rfl
theorem dX12_goes_78 : decode cX12_goes 78 = .ok (.iconst 2, 1) := dk_get dk_d05_522 18 rfl
theorem dX12_goes_79 : decode cX12_goes 79 = .ok (.if_icmp .ne 10, 3) := dk_get dk_d05_522 19 rfl
theorem dX12_goes_82 : decode cX12_goes 82 = .ok (.aload_n 0, 1) := dk_get dk_d05_522 20 rfl
theorem dX12_goes_83 : decode cX12_goes 83 = .ok (.invokevirtual 387, 3) := dk_get dk_d05_522 21 rfl
theorem dX12_goes_86 : decode cX12_goes 86 = .ok (.goto 4, 3) := dk_get dk_d05_522 22 rfl
theorem dX12_goes_89 : decode cX12_goes 89 = .ok (.iconst 0, 1) := dk_get dk_d05_522 23 rfl
theorem dX12_goes_90 : decode cX12_goes 90 = .ok (.istore_n 3, 1) := dk_get dk_d05_522 24 rfl
theorem dk_d05_523 : dkc cX12_goes [(91, .iconst 0, 1), (92, .istore 4, 2), (94, .iload 4, 2), (96, .aload_n 0, 1), (97, .getfield 152, 3), (100, .if_icmp .ge 27, 3), (103, .iload_n 2, 1), (104, .iconst 3, 1), (105, .if_icmp .ne 22, 3), (108, .iload_n 3, 1), (109, .aload_n 0, 1), (110, .getfield 7, 3), (113, .bipush 47, 2), (115, .iload 4, 2), (117, .iadd, 1), (118, .iaload, 1), (119, .iadd, 1), (120, .istore_n 3, 1), (121, .iinc 4 1, 3), (124, .goto (-30), 3), (127, .aload_n 0, 1), (128, .invokevirtual 412, 3), (131, .iload_n 3, 1), (132, .ireturn, 1)] = true := by decide +kernel
theorem dX12_goes_91 : decode cX12_goes 91 = .ok (.iconst 0, 1) := dk_get dk_d05_523 0 rfl
theorem dX12_goes_92 : decode cX12_goes 92 = .ok (.istore 4, 2) := dk_get dk_d05_523 1 rfl
theorem dX12_goes_94 : decode cX12_goes 94 = .ok (.iload 4, 2) := dk_get dk_d05_523 2 rfl
theorem dX12_goes_96 : decode cX12_goes 96 = .ok (.aload_n 0, 1) := dk_get dk_d05_523 3 rfl
theorem dX12_goes_97 : decode cX12_goes 97 = .ok (.getfield 152, 3) := dk_get dk_d05_523 4 rfl
theorem dX12_goes_100 : decode cX12_goes 100 = .ok (.if_icmp .ge 27, 3) := dk_get dk_d05_523 5 rfl
theorem dX12_goes_103 : decode cX12_goes 103 = .ok (.iload_n 2, 1) := dk_get dk_d05_523 6 rfl
theorem dX12_goes_104 : decode cX12_goes 104 = .ok (.iconst 3, 1) := dk_get dk_d05_523 7 rfl
theorem dX12_goes_105 : decode cX12_goes 105 = .ok (.if_icmp .ne 22, 3) := dk_get dk_d05_523 8 rfl
theorem dX12_goes_108 : decode cX12_goes 108 = .ok (.iload_n 3, 1) := dk_get dk_d05_523 9 rfl
theorem dX12_goes_109 : decode cX12_goes 109 = .ok (.aload_n 0, 1) := dk_get dk_d05_523 10 rfl
theorem dX12_goes_110 : decode cX12_goes 110 = .ok (.getfield 7, 3) := dk_get dk_d05_523 11 rfl
theorem dX12_goes_113 : decode cX12_goes 113 = .ok (.bipush 47, 2) := dk_get dk_d05_523 12 rfl
theorem dX12_goes_115 : decode cX12_goes 115 = .ok (.iload 4, 2) := dk_get dk_d05_523 13 rfl
theorem dX12_goes_117 : decode cX12_goes 117 = .ok (.iadd, 1) := dk_get dk_d05_523 14 rfl
theorem dX12_goes_118 : decode cX12_goes 118 = .ok (.iaload, 1) := dk_get dk_d05_523 15 rfl
theorem dX12_goes_119 : decode cX12_goes 119 = .ok (.iadd, 1) := dk_get dk_d05_523 16 rfl
theorem dX12_goes_120 : decode cX12_goes 120 = .ok (.istore_n 3, 1) := dk_get dk_d05_523 17 rfl
theorem dX12_goes_121 : decode cX12_goes 121 = .ok (.iinc 4 1, 3) := dk_get dk_d05_523 18 rfl
theorem dX12_goes_124 : decode cX12_goes 124 = .ok (.goto (-30), 3) := dk_get dk_d05_523 19 rfl
theorem dX12_goes_127 : decode cX12_goes 127 = .ok (.aload_n 0, 1) := dk_get dk_d05_523 20 rfl
theorem dX12_goes_128 : decode cX12_goes 128 = .ok (.invokevirtual 412, 3) := dk_get dk_d05_523 21 rfl
theorem dX12_goes_131 : decode cX12_goes 131 = .ok (.iload_n 3, 1) := dk_get dk_d05_523 22 rfl
theorem dX12_goes_132 : decode cX12_goes 132 = .ok (.ireturn, 1) := dk_get dk_d05_523 23 rfl
theorem dk_d05_524 : dkc cX12_turned [(0, .aload_n 0, 1), (1, .invokevirtual 387, 3), (4, .istore_n 1, 1), (5, .iconst 0, 1), (6, .istore_n 2, 1), (7, .iconst 0, 1), (8, .istore_n 3, 1), (9, .iload_n 3, 1), (10, .sipush 144, 3), (13, .if_icmp .ge 38, 3), (16, .aload_n 0, 1), (17, .getfield 80, 3), (20, .iload_n 3, 1), (21, .aload_n 0, 1), (22, .getfield 7, 3), (25, .sipush 211, 3), (28, .iload_n 3, 1), (29, .iadd, 1), (30, .iaload, 1), (31, .iconst (-1), 1), (32, .if_icmp .ne 11, 3), (35, .aload_n 0, 1), (36, .iload_n 3, 1), (37, .invokevirtual 353, 3), (40, .goto 4, 3)] = true := by decide +kernel
theorem dX12_turned_0 : decode cX12_turned 0 = .ok (.aload_n 0, 1) := dk_get dk_d05_524 0 rfl
theorem dX12_turned_1 : decode cX12_turned 1 = .ok (.invokevirtual 387, 3) := dk_get dk_d05_524 1 rfl
theorem dX12_turned_4 : decode cX12_turned 4 = .ok (.istore_n 1, 1) := dk_get dk_d05_524 2 rfl
theorem dX12_turned_5 : decode cX12_turned 5 = .ok (.iconst 0, 1) := dk_get dk_d05_524 3 rfl
theorem dX12_turned_6 : decode cX12_turned 6 = .ok (.istore_n 2, 1) := dk_get dk_d05_524 4 rfl
theorem dX12_turned_7 : decode cX12_turned 7 = .ok (.iconst 0, 1) := dk_get dk_d05_524 5 rfl
theorem dX12_turned_8 : decode cX12_turned 8 = .ok (.istore_n 3, 1) := dk_get dk_d05_524 6 rfl
theorem dX12_turned_9 : decode cX12_turned 9 = .ok (.iload_n 3, 1) := dk_get dk_d05_524 7 rfl
theorem dX12_turned_10 : decode cX12_turned 10 = .ok (.sipush 144, 3) := dk_get dk_d05_524 8 rfl
theorem dX12_turned_13 : decode cX12_turned 13 = .ok (.if_icmp .ge 38, 3) := dk_get dk_d05_524 9 rfl
theorem dX12_turned_16 : decode cX12_turned 16 = .ok (.aload_n 0, 1) := dk_get dk_d05_524 10 rfl
theorem dX12_turned_17 : decode cX12_turned 17 = .ok (.getfield 80, 3) := dk_get dk_d05_524 11 rfl
theorem dX12_turned_20 : decode cX12_turned 20 = .ok (.iload_n 3, 1) := dk_get dk_d05_524 12 rfl
theorem dX12_turned_21 : decode cX12_turned 21 = .ok (.aload_n 0, 1) := dk_get dk_d05_524 13 rfl
theorem dX12_turned_22 : decode cX12_turned 22 = .ok (.getfield 7, 3) := dk_get dk_d05_524 14 rfl
theorem dX12_turned_25 : decode cX12_turned 25 = .ok (.sipush 211, 3) := dk_get dk_d05_524 15 rfl
theorem dX12_turned_28 : decode cX12_turned 28 = .ok (.iload_n 3, 1) := dk_get dk_d05_524 16 rfl
theorem dX12_turned_29 : decode cX12_turned 29 = .ok (.iadd, 1) := dk_get dk_d05_524 17 rfl
theorem dX12_turned_30 : decode cX12_turned 30 = .ok (.iaload, 1) := dk_get dk_d05_524 18 rfl
theorem dX12_turned_31 : decode cX12_turned 31 = .ok (.iconst (-1), 1) := dk_get dk_d05_524 19 rfl
theorem dX12_turned_32 : decode cX12_turned 32 = .ok (.if_icmp .ne 11, 3) := dk_get dk_d05_524 20 rfl
theorem dX12_turned_35 : decode cX12_turned 35 = .ok (.aload_n 0, 1) := dk_get dk_d05_524 21 rfl
theorem dX12_turned_36 : decode cX12_turned 36 = .ok (.iload_n 3, 1) := dk_get dk_d05_524 22 rfl
theorem dX12_turned_37 : decode cX12_turned 37 = .ok (.invokevirtual 353, 3) := dk_get dk_d05_524 23 rfl
theorem dX12_turned_40 : decode cX12_turned 40 = .ok (.goto 4, 3) := dk_get dk_d05_524 24 rfl
theorem dk_d05_525 : dkc cX12_turned [(43, .iconst 0, 1), (44, .iastore, 1), (45, .iinc 3 1, 3), (48, .goto (-39), 3), (51, .iload_n 1, 1), (52, .ifCond .gt 75, 3), (55, .iconst 0, 1), (56, .istore_n 3, 1), (57, .iconst 1, 1), (58, .istore 4, 2), (60, .iload 4, 2), (62, .sipush 144, 3), (65, .if_icmp .ge 28, 3), (68, .aload_n 0, 1), (69, .getfield 80, 3), (72, .iload 4, 2), (74, .iaload, 1), (75, .aload_n 0, 1), (76, .getfield 80, 3), (79, .iload_n 3, 1), (80, .iaload, 1), (81, .if_icmp .le 6, 3), (84, .iload 4, 2), (86, .istore_n 3, 1), (87, .iinc 4 1, 3)] = true := by decide +kernel
theorem dX12_turned_43 : decode cX12_turned 43 = .ok (.iconst 0, 1) := dk_get dk_d05_525 0 rfl
theorem dX12_turned_44 : decode cX12_turned 44 = .ok (.iastore, 1) := dk_get dk_d05_525 1 rfl
theorem dX12_turned_45 : decode cX12_turned 45 = .ok (.iinc 3 1, 3) := dk_get dk_d05_525 2 rfl
theorem dX12_turned_48 : decode cX12_turned 48 = .ok (.goto (-39), 3) := dk_get dk_d05_525 3 rfl
theorem dX12_turned_51 : decode cX12_turned 51 = .ok (.iload_n 1, 1) := dk_get dk_d05_525 4 rfl
theorem dX12_turned_52 : decode cX12_turned 52 = .ok (.ifCond .gt 75, 3) := dk_get dk_d05_525 5 rfl
theorem dX12_turned_55 : decode cX12_turned 55 = .ok (.iconst 0, 1) := dk_get dk_d05_525 6 rfl
theorem dX12_turned_56 : decode cX12_turned 56 = .ok (.istore_n 3, 1) := dk_get dk_d05_525 7 rfl
theorem dX12_turned_57 : decode cX12_turned 57 = .ok (.iconst 1, 1) := dk_get dk_d05_525 8 rfl
theorem dX12_turned_58 : decode cX12_turned 58 = .ok (.istore 4, 2) := dk_get dk_d05_525 9 rfl
theorem dX12_turned_60 : decode cX12_turned 60 = .ok (.iload 4, 2) := dk_get dk_d05_525 10 rfl
theorem dX12_turned_62 : decode cX12_turned 62 = .ok (.sipush 144, 3) := dk_get dk_d05_525 11 rfl
theorem dX12_turned_65 : decode cX12_turned 65 = .ok (.if_icmp .ge 28, 3) := dk_get dk_d05_525 12 rfl
theorem dX12_turned_68 : decode cX12_turned 68 = .ok (.aload_n 0, 1) := dk_get dk_d05_525 13 rfl
theorem dX12_turned_69 : decode cX12_turned 69 = .ok (.getfield 80, 3) := dk_get dk_d05_525 14 rfl
theorem dX12_turned_72 : decode cX12_turned 72 = .ok (.iload 4, 2) := dk_get dk_d05_525 15 rfl
theorem dX12_turned_74 : decode cX12_turned 74 = .ok (.iaload, 1) := dk_get dk_d05_525 16 rfl
theorem dX12_turned_75 : decode cX12_turned 75 = .ok (.aload_n 0, 1) := dk_get dk_d05_525 17 rfl
theorem dX12_turned_76 : decode cX12_turned 76 = .ok (.getfield 80, 3) := dk_get dk_d05_525 18 rfl
theorem dX12_turned_79 : decode cX12_turned 79 = .ok (.iload_n 3, 1) := dk_get dk_d05_525 19 rfl
theorem dX12_turned_80 : decode cX12_turned 80 = .ok (.iaload, 1) := dk_get dk_d05_525 20 rfl
theorem dX12_turned_81 : decode cX12_turned 81 = .ok (.if_icmp .le 6, 3) := dk_get dk_d05_525 21 rfl
theorem dX12_turned_84 : decode cX12_turned 84 = .ok (.iload 4, 2) := dk_get dk_d05_525 22 rfl
theorem dX12_turned_86 : decode cX12_turned 86 = .ok (.istore_n 3, 1) := dk_get dk_d05_525 23 rfl
theorem dX12_turned_87 : decode cX12_turned 87 = .ok (.iinc 4 1, 3) := dk_get dk_d05_525 24 rfl
theorem dk_d05_526 : dkc cX12_turned [(90, .goto (-30), 3), (93, .aload_n 0, 1), (94, .getfield 80, 3), (97, .iload_n 3, 1), (98, .iaload, 1), (99, .ifCond .ne 5, 3), (102, .iconst (-1), 1), (103, .ireturn, 1), (104, .iload_n 1, 1), (105, .aload_n 0, 1), (106, .getfield 80, 3), (109, .iload_n 3, 1), (110, .iaload, 1), (111, .iadd, 1), (112, .istore_n 1, 1), (113, .aload_n 0, 1), (114, .getfield 80, 3), (117, .iload_n 3, 1), (118, .iconst 0, 1), (119, .iastore, 1), (120, .iload_n 2, 1), (121, .iconst 1, 1), (122, .iadd, 1), (123, .istore_n 2, 1), (124, .goto (-73), 3)] = true := by decide +kernel
theorem dX12_turned_90 : decode cX12_turned 90 = .ok (.goto (-30), 3) := dk_get dk_d05_526 0 rfl
theorem dX12_turned_93 : decode cX12_turned 93 = .ok (.aload_n 0, 1) := dk_get dk_d05_526 1 rfl
theorem dX12_turned_94 : decode cX12_turned 94 = .ok (.getfield 80, 3) := dk_get dk_d05_526 2 rfl
theorem dX12_turned_97 : decode cX12_turned 97 = .ok (.iload_n 3, 1) := dk_get dk_d05_526 3 rfl
theorem dX12_turned_98 : decode cX12_turned 98 = .ok (.iaload, 1) := dk_get dk_d05_526 4 rfl
theorem dX12_turned_99 : decode cX12_turned 99 = .ok (.ifCond .ne 5, 3) := dk_get dk_d05_526 5 rfl
theorem dX12_turned_102 : decode cX12_turned 102 = .ok (.iconst (-1), 1) := dk_get dk_d05_526 6 rfl
theorem dX12_turned_103 : decode cX12_turned 103 = .ok (.ireturn, 1) := dk_get dk_d05_526 7 rfl
theorem dX12_turned_104 : decode cX12_turned 104 = .ok (.iload_n 1, 1) := dk_get dk_d05_526 8 rfl
theorem dX12_turned_105 : decode cX12_turned 105 = .ok (.aload_n 0, 1) := dk_get dk_d05_526 9 rfl
theorem dX12_turned_106 : decode cX12_turned 106 = .ok (.getfield 80, 3) := dk_get dk_d05_526 10 rfl
theorem dX12_turned_109 : decode cX12_turned 109 = .ok (.iload_n 3, 1) := dk_get dk_d05_526 11 rfl
theorem dX12_turned_110 : decode cX12_turned 110 = .ok (.iaload, 1) := dk_get dk_d05_526 12 rfl
theorem dX12_turned_111 : decode cX12_turned 111 = .ok (.iadd, 1) := dk_get dk_d05_526 13 rfl
theorem dX12_turned_112 : decode cX12_turned 112 = .ok (.istore_n 1, 1) := dk_get dk_d05_526 14 rfl
theorem dX12_turned_113 : decode cX12_turned 113 = .ok (.aload_n 0, 1) := dk_get dk_d05_526 15 rfl
theorem dX12_turned_114 : decode cX12_turned 114 = .ok (.getfield 80, 3) := dk_get dk_d05_526 16 rfl
theorem dX12_turned_117 : decode cX12_turned 117 = .ok (.iload_n 3, 1) := dk_get dk_d05_526 17 rfl
theorem dX12_turned_118 : decode cX12_turned 118 = .ok (.iconst 0, 1) := dk_get dk_d05_526 18 rfl
theorem dX12_turned_119 : decode cX12_turned 119 = .ok (.iastore, 1) := dk_get dk_d05_526 19 rfl
theorem dX12_turned_120 : decode cX12_turned 120 = .ok (.iload_n 2, 1) := dk_get dk_d05_526 20 rfl
theorem dX12_turned_121 : decode cX12_turned 121 = .ok (.iconst 1, 1) := dk_get dk_d05_526 21 rfl
theorem dX12_turned_122 : decode cX12_turned 122 = .ok (.iadd, 1) := dk_get dk_d05_526 22 rfl
theorem dX12_turned_123 : decode cX12_turned 123 = .ok (.istore_n 2, 1) := dk_get dk_d05_526 23 rfl
theorem dX12_turned_124 : decode cX12_turned 124 = .ok (.goto (-73), 3) := dk_get dk_d05_526 24 rfl
theorem dk_d05_527 : dkc cX12_turned [(127, .iload_n 2, 1), (128, .ireturn, 1)] = true := by decide +kernel
theorem dX12_turned_127 : decode cX12_turned 127 = .ok (.iload_n 2, 1) := dk_get dk_d05_527 0 rfl
theorem dX12_turned_128 : decode cX12_turned 128 = .ok (.ireturn, 1) := dk_get dk_d05_527 1 rfl
theorem dk_d05_528 : dkc cX12_findsParts [(0, .iconst 0, 1), (1, .istore_n 1, 1), (2, .iload_n 1, 1), (3, .sipush 144, 3), (6, .if_icmp .ge 16, 3), (9, .aload_n 0, 1), (10, .getfield 80, 3), (13, .iload_n 1, 1), (14, .iload_n 1, 1), (15, .iastore, 1), (16, .iinc 1 1, 3), (19, .goto (-17), 3), (22, .iconst 1, 1), (23, .istore_n 1, 1), (24, .iload_n 1, 1), (25, .ifCond .eq 201, 3), (28, .iconst 0, 1), (29, .istore_n 1, 1), (30, .iconst 0, 1), (31, .istore_n 2, 1), (32, .iload_n 2, 1), (33, .sipush 144, 3), (36, .if_icmp .ge 187, 3), (39, .aload_n 0, 1), (40, .getfield 80, 3)] = true := by decide +kernel
theorem dX12_findsParts_0 : decode cX12_findsParts 0 = .ok (.iconst 0, 1) := dk_get dk_d05_528 0 rfl
theorem dX12_findsParts_1 : decode cX12_findsParts 1 = .ok (.istore_n 1, 1) := dk_get dk_d05_528 1 rfl
theorem dX12_findsParts_2 : decode cX12_findsParts 2 = .ok (.iload_n 1, 1) := dk_get dk_d05_528 2 rfl
theorem dX12_findsParts_3 : decode cX12_findsParts 3 = .ok (.sipush 144, 3) := dk_get dk_d05_528 3 rfl
theorem dX12_findsParts_6 : decode cX12_findsParts 6 = .ok (.if_icmp .ge 16, 3) := dk_get dk_d05_528 4 rfl
theorem dX12_findsParts_9 : decode cX12_findsParts 9 = .ok (.aload_n 0, 1) := dk_get dk_d05_528 5 rfl
theorem dX12_findsParts_10 : decode cX12_findsParts 10 = .ok (.getfield 80, 3) := dk_get dk_d05_528 6 rfl
theorem dX12_findsParts_13 : decode cX12_findsParts 13 = .ok (.iload_n 1, 1) := dk_get dk_d05_528 7 rfl
theorem dX12_findsParts_14 : decode cX12_findsParts 14 = .ok (.iload_n 1, 1) := dk_get dk_d05_528 8 rfl
theorem dX12_findsParts_15 : decode cX12_findsParts 15 = .ok (.iastore, 1) := dk_get dk_d05_528 9 rfl
theorem dX12_findsParts_16 : decode cX12_findsParts 16 = .ok (.iinc 1 1, 3) := dk_get dk_d05_528 10 rfl
theorem dX12_findsParts_19 : decode cX12_findsParts 19 = .ok (.goto (-17), 3) := dk_get dk_d05_528 11 rfl
theorem dX12_findsParts_22 : decode cX12_findsParts 22 = .ok (.iconst 1, 1) := dk_get dk_d05_528 12 rfl
theorem dX12_findsParts_23 : decode cX12_findsParts 23 = .ok (.istore_n 1, 1) := dk_get dk_d05_528 13 rfl
theorem dX12_findsParts_24 : decode cX12_findsParts 24 = .ok (.iload_n 1, 1) := dk_get dk_d05_528 14 rfl
theorem dX12_findsParts_25 : decode cX12_findsParts 25 = .ok (.ifCond .eq 201, 3) := dk_get dk_d05_528 15 rfl
theorem dX12_findsParts_28 : decode cX12_findsParts 28 = .ok (.iconst 0, 1) := dk_get dk_d05_528 16 rfl
theorem dX12_findsParts_29 : decode cX12_findsParts 29 = .ok (.istore_n 1, 1) := dk_get dk_d05_528 17 rfl
theorem dX12_findsParts_30 : decode cX12_findsParts 30 = .ok (.iconst 0, 1) := dk_get dk_d05_528 18 rfl
theorem dX12_findsParts_31 : decode cX12_findsParts 31 = .ok (.istore_n 2, 1) := dk_get dk_d05_528 19 rfl
theorem dX12_findsParts_32 : decode cX12_findsParts 32 = .ok (.iload_n 2, 1) := dk_get dk_d05_528 20 rfl
theorem dX12_findsParts_33 : decode cX12_findsParts 33 = .ok (.sipush 144, 3) := dk_get dk_d05_528 21 rfl
theorem dX12_findsParts_36 : decode cX12_findsParts 36 = .ok (.if_icmp .ge 187, 3) := dk_get dk_d05_528 22 rfl
theorem dX12_findsParts_39 : decode cX12_findsParts 39 = .ok (.aload_n 0, 1) := dk_get dk_d05_528 23 rfl
theorem dX12_findsParts_40 : decode cX12_findsParts 40 = .ok (.getfield 80, 3) := dk_get dk_d05_528 24 rfl
theorem dk_d05_529 : dkc cX12_findsParts [(43, .iload_n 2, 1), (44, .iaload, 1), (45, .istore_n 3, 1), (46, .iload_n 2, 1), (47, .bipush 12, 2), (49, .if_icmp .lt 34, 3), (52, .aload_n 0, 1), (53, .iload_n 2, 1), (54, .invokevirtual 332, 3), (57, .aload_n 0, 1), (58, .iload_n 2, 1), (59, .bipush 12, 2), (61, .isub, 1), (62, .invokevirtual 332, 3), (65, .if_icmp .ne 18, 3), (68, .aload_n 0, 1), (69, .iload_n 3, 1), (70, .aload_n 0, 1), (71, .getfield 80, 3), (74, .iload_n 2, 1), (75, .bipush 12, 2), (77, .isub, 1), (78, .iaload, 1), (79, .invokevirtual 363, 3), (82, .istore_n 3, 1)] = true := by decide +kernel
theorem dX12_findsParts_43 : decode cX12_findsParts 43 = .ok (.iload_n 2, 1) := dk_get dk_d05_529 0 rfl
theorem dX12_findsParts_44 : decode cX12_findsParts 44 = .ok (.iaload, 1) := dk_get dk_d05_529 1 rfl
theorem dX12_findsParts_45 : decode cX12_findsParts 45 = .ok (.istore_n 3, 1) := dk_get dk_d05_529 2 rfl
theorem dX12_findsParts_46 : decode cX12_findsParts 46 = .ok (.iload_n 2, 1) := dk_get dk_d05_529 3 rfl
theorem dX12_findsParts_47 : decode cX12_findsParts 47 = .ok (.bipush 12, 2) := dk_get dk_d05_529 4 rfl
theorem dX12_findsParts_49 : decode cX12_findsParts 49 = .ok (.if_icmp .lt 34, 3) := dk_get dk_d05_529 5 rfl
theorem dX12_findsParts_52 : decode cX12_findsParts 52 = .ok (.aload_n 0, 1) := dk_get dk_d05_529 6 rfl
theorem dX12_findsParts_53 : decode cX12_findsParts 53 = .ok (.iload_n 2, 1) := dk_get dk_d05_529 7 rfl
theorem dX12_findsParts_54 : decode cX12_findsParts 54 = .ok (.invokevirtual 332, 3) := dk_get dk_d05_529 8 rfl
theorem dX12_findsParts_57 : decode cX12_findsParts 57 = .ok (.aload_n 0, 1) := dk_get dk_d05_529 9 rfl
theorem dX12_findsParts_58 : decode cX12_findsParts 58 = .ok (.iload_n 2, 1) := dk_get dk_d05_529 10 rfl
theorem dX12_findsParts_59 : decode cX12_findsParts 59 = .ok (.bipush 12, 2) := dk_get dk_d05_529 11 rfl
theorem dX12_findsParts_61 : decode cX12_findsParts 61 = .ok (.isub, 1) := dk_get dk_d05_529 12 rfl
theorem dX12_findsParts_62 : decode cX12_findsParts 62 = .ok (.invokevirtual 332, 3) := dk_get dk_d05_529 13 rfl
theorem dX12_findsParts_65 : decode cX12_findsParts 65 = .ok (.if_icmp .ne 18, 3) := dk_get dk_d05_529 14 rfl
theorem dX12_findsParts_68 : decode cX12_findsParts 68 = .ok (.aload_n 0, 1) := dk_get dk_d05_529 15 rfl
theorem dX12_findsParts_69 : decode cX12_findsParts 69 = .ok (.iload_n 3, 1) := dk_get dk_d05_529 16 rfl
theorem dX12_findsParts_70 : decode cX12_findsParts 70 = .ok (.aload_n 0, 1) := dk_get dk_d05_529 17 rfl
theorem dX12_findsParts_71 : decode cX12_findsParts 71 = .ok (.getfield 80, 3) := dk_get dk_d05_529 18 rfl
theorem dX12_findsParts_74 : decode cX12_findsParts 74 = .ok (.iload_n 2, 1) := dk_get dk_d05_529 19 rfl
theorem dX12_findsParts_75 : decode cX12_findsParts 75 = .ok (.bipush 12, 2) := dk_get dk_d05_529 20 rfl
theorem dX12_findsParts_77 : decode cX12_findsParts 77 = .ok (.isub, 1) := dk_get dk_d05_529 21 rfl
theorem dX12_findsParts_78 : decode cX12_findsParts 78 = .ok (.iaload, 1) := dk_get dk_d05_529 22 rfl
theorem dX12_findsParts_79 : decode cX12_findsParts 79 = .ok (.invokevirtual 363, 3) := dk_get dk_d05_529 23 rfl
theorem dX12_findsParts_82 : decode cX12_findsParts 82 = .ok (.istore_n 3, 1) := dk_get dk_d05_529 24 rfl
theorem dk_d05_530 : dkc cX12_findsParts [(83, .iload_n 2, 1), (84, .sipush 132, 3), (87, .if_icmp .ge 34, 3), (90, .aload_n 0, 1), (91, .iload_n 2, 1), (92, .invokevirtual 332, 3), (95, .aload_n 0, 1), (96, .iload_n 2, 1), (97, .bipush 12, 2), (99, .iadd, 1), (100, .invokevirtual 332, 3), (103, .if_icmp .ne 18, 3), (106, .aload_n 0, 1), (107, .iload_n 3, 1), (108, .aload_n 0, 1), (109, .getfield 80, 3), (112, .iload_n 2, 1), (113, .bipush 12, 2), (115, .iadd, 1), (116, .iaload, 1), (117, .invokevirtual 363, 3), (120, .istore_n 3, 1), (121, .iload_n 2, 1), (122, .bipush 12, 2), (124, .irem, 1)] = true := by decide +kernel
theorem dX12_findsParts_83 : decode cX12_findsParts 83 = .ok (.iload_n 2, 1) := dk_get dk_d05_530 0 rfl
theorem dX12_findsParts_84 : decode cX12_findsParts 84 = .ok (.sipush 132, 3) := dk_get dk_d05_530 1 rfl
theorem dX12_findsParts_87 : decode cX12_findsParts 87 = .ok (.if_icmp .ge 34, 3) := dk_get dk_d05_530 2 rfl
theorem dX12_findsParts_90 : decode cX12_findsParts 90 = .ok (.aload_n 0, 1) := dk_get dk_d05_530 3 rfl
theorem dX12_findsParts_91 : decode cX12_findsParts 91 = .ok (.iload_n 2, 1) := dk_get dk_d05_530 4 rfl
theorem dX12_findsParts_92 : decode cX12_findsParts 92 = .ok (.invokevirtual 332, 3) := dk_get dk_d05_530 5 rfl
theorem dX12_findsParts_95 : decode cX12_findsParts 95 = .ok (.aload_n 0, 1) := dk_get dk_d05_530 6 rfl
theorem dX12_findsParts_96 : decode cX12_findsParts 96 = .ok (.iload_n 2, 1) := dk_get dk_d05_530 7 rfl
theorem dX12_findsParts_97 : decode cX12_findsParts 97 = .ok (.bipush 12, 2) := dk_get dk_d05_530 8 rfl
theorem dX12_findsParts_99 : decode cX12_findsParts 99 = .ok (.iadd, 1) := dk_get dk_d05_530 9 rfl
theorem dX12_findsParts_100 : decode cX12_findsParts 100 = .ok (.invokevirtual 332, 3) := dk_get dk_d05_530 10 rfl
theorem dX12_findsParts_103 : decode cX12_findsParts 103 = .ok (.if_icmp .ne 18, 3) := dk_get dk_d05_530 11 rfl
theorem dX12_findsParts_106 : decode cX12_findsParts 106 = .ok (.aload_n 0, 1) := dk_get dk_d05_530 12 rfl
theorem dX12_findsParts_107 : decode cX12_findsParts 107 = .ok (.iload_n 3, 1) := dk_get dk_d05_530 13 rfl
theorem dX12_findsParts_108 : decode cX12_findsParts 108 = .ok (.aload_n 0, 1) := dk_get dk_d05_530 14 rfl
theorem dX12_findsParts_109 : decode cX12_findsParts 109 = .ok (.getfield 80, 3) := dk_get dk_d05_530 15 rfl
theorem dX12_findsParts_112 : decode cX12_findsParts 112 = .ok (.iload_n 2, 1) := dk_get dk_d05_530 16 rfl
theorem dX12_findsParts_113 : decode cX12_findsParts 113 = .ok (.bipush 12, 2) := dk_get dk_d05_530 17 rfl
theorem dX12_findsParts_115 : decode cX12_findsParts 115 = .ok (.iadd, 1) := dk_get dk_d05_530 18 rfl
theorem dX12_findsParts_116 : decode cX12_findsParts 116 = .ok (.iaload, 1) := dk_get dk_d05_530 19 rfl
theorem dX12_findsParts_117 : decode cX12_findsParts 117 = .ok (.invokevirtual 363, 3) := dk_get dk_d05_530 20 rfl
theorem dX12_findsParts_120 : decode cX12_findsParts 120 = .ok (.istore_n 3, 1) := dk_get dk_d05_530 21 rfl
theorem dX12_findsParts_121 : decode cX12_findsParts 121 = .ok (.iload_n 2, 1) := dk_get dk_d05_530 22 rfl
theorem dX12_findsParts_122 : decode cX12_findsParts 122 = .ok (.bipush 12, 2) := dk_get dk_d05_530 23 rfl
theorem dX12_findsParts_124 : decode cX12_findsParts 124 = .ok (.irem, 1) := dk_get dk_d05_530 24 rfl
theorem dk_d05_531 : dkc cX12_findsParts [(125, .ifCond .le 32, 3), (128, .aload_n 0, 1), (129, .iload_n 2, 1), (130, .invokevirtual 332, 3), (133, .aload_n 0, 1), (134, .iload_n 2, 1), (135, .iconst 1, 1), (136, .isub, 1), (137, .invokevirtual 332, 3), (140, .if_icmp .ne 17, 3), (143, .aload_n 0, 1), (144, .iload_n 3, 1), (145, .aload_n 0, 1), (146, .getfield 80, 3), (149, .iload_n 2, 1), (150, .iconst 1, 1), (151, .isub, 1), (152, .iaload, 1), (153, .invokevirtual 363, 3), (156, .istore_n 3, 1), (157, .iload_n 2, 1), (158, .bipush 12, 2), (160, .irem, 1), (161, .bipush 11, 2), (163, .if_icmp .ge 32, 3)] = true := by decide +kernel
theorem dX12_findsParts_125 : decode cX12_findsParts 125 = .ok (.ifCond .le 32, 3) := dk_get dk_d05_531 0 rfl
theorem dX12_findsParts_128 : decode cX12_findsParts 128 = .ok (.aload_n 0, 1) := dk_get dk_d05_531 1 rfl
theorem dX12_findsParts_129 : decode cX12_findsParts 129 = .ok (.iload_n 2, 1) := dk_get dk_d05_531 2 rfl
theorem dX12_findsParts_130 : decode cX12_findsParts 130 = .ok (.invokevirtual 332, 3) := dk_get dk_d05_531 3 rfl
theorem dX12_findsParts_133 : decode cX12_findsParts 133 = .ok (.aload_n 0, 1) := dk_get dk_d05_531 4 rfl
theorem dX12_findsParts_134 : decode cX12_findsParts 134 = .ok (.iload_n 2, 1) := dk_get dk_d05_531 5 rfl
theorem dX12_findsParts_135 : decode cX12_findsParts 135 = .ok (.iconst 1, 1) := dk_get dk_d05_531 6 rfl
theorem dX12_findsParts_136 : decode cX12_findsParts 136 = .ok (.isub, 1) := dk_get dk_d05_531 7 rfl
theorem dX12_findsParts_137 : decode cX12_findsParts 137 = .ok (.invokevirtual 332, 3) := dk_get dk_d05_531 8 rfl
theorem dX12_findsParts_140 : decode cX12_findsParts 140 = .ok (.if_icmp .ne 17, 3) := dk_get dk_d05_531 9 rfl
theorem dX12_findsParts_143 : decode cX12_findsParts 143 = .ok (.aload_n 0, 1) := dk_get dk_d05_531 10 rfl
theorem dX12_findsParts_144 : decode cX12_findsParts 144 = .ok (.iload_n 3, 1) := dk_get dk_d05_531 11 rfl
theorem dX12_findsParts_145 : decode cX12_findsParts 145 = .ok (.aload_n 0, 1) := dk_get dk_d05_531 12 rfl
theorem dX12_findsParts_146 : decode cX12_findsParts 146 = .ok (.getfield 80, 3) := dk_get dk_d05_531 13 rfl
theorem dX12_findsParts_149 : decode cX12_findsParts 149 = .ok (.iload_n 2, 1) := dk_get dk_d05_531 14 rfl
theorem dX12_findsParts_150 : decode cX12_findsParts 150 = .ok (.iconst 1, 1) := dk_get dk_d05_531 15 rfl
theorem dX12_findsParts_151 : decode cX12_findsParts 151 = .ok (.isub, 1) := dk_get dk_d05_531 16 rfl
theorem dX12_findsParts_152 : decode cX12_findsParts 152 = .ok (.iaload, 1) := dk_get dk_d05_531 17 rfl
theorem dX12_findsParts_153 : decode cX12_findsParts 153 = .ok (.invokevirtual 363, 3) := dk_get dk_d05_531 18 rfl
theorem dX12_findsParts_156 : decode cX12_findsParts 156 = .ok (.istore_n 3, 1) := dk_get dk_d05_531 19 rfl
theorem dX12_findsParts_157 : decode cX12_findsParts 157 = .ok (.iload_n 2, 1) := dk_get dk_d05_531 20 rfl
theorem dX12_findsParts_158 : decode cX12_findsParts 158 = .ok (.bipush 12, 2) := dk_get dk_d05_531 21 rfl
theorem dX12_findsParts_160 : decode cX12_findsParts 160 = .ok (.irem, 1) := dk_get dk_d05_531 22 rfl
theorem dX12_findsParts_161 : decode cX12_findsParts 161 = .ok (.bipush 11, 2) := dk_get dk_d05_531 23 rfl
theorem dX12_findsParts_163 : decode cX12_findsParts 163 = .ok (.if_icmp .ge 32, 3) := dk_get dk_d05_531 24 rfl
theorem dk_d05_532 : dkc cX12_findsParts [(166, .aload_n 0, 1), (167, .iload_n 2, 1), (168, .invokevirtual 332, 3), (171, .aload_n 0, 1), (172, .iload_n 2, 1), (173, .iconst 1, 1), (174, .iadd, 1), (175, .invokevirtual 332, 3), (178, .if_icmp .ne 17, 3), (181, .aload_n 0, 1), (182, .iload_n 3, 1), (183, .aload_n 0, 1), (184, .getfield 80, 3), (187, .iload_n 2, 1), (188, .iconst 1, 1), (189, .iadd, 1), (190, .iaload, 1), (191, .invokevirtual 363, 3), (194, .istore_n 3, 1), (195, .iload_n 3, 1), (196, .aload_n 0, 1), (197, .getfield 80, 3), (200, .iload_n 2, 1), (201, .iaload, 1), (202, .if_icmp .ne 6, 3)] = true := by decide +kernel
theorem dX12_findsParts_166 : decode cX12_findsParts 166 = .ok (.aload_n 0, 1) := dk_get dk_d05_532 0 rfl
theorem dX12_findsParts_167 : decode cX12_findsParts 167 = .ok (.iload_n 2, 1) := dk_get dk_d05_532 1 rfl
theorem dX12_findsParts_168 : decode cX12_findsParts 168 = .ok (.invokevirtual 332, 3) := dk_get dk_d05_532 2 rfl
theorem dX12_findsParts_171 : decode cX12_findsParts 171 = .ok (.aload_n 0, 1) := dk_get dk_d05_532 3 rfl
theorem dX12_findsParts_172 : decode cX12_findsParts 172 = .ok (.iload_n 2, 1) := dk_get dk_d05_532 4 rfl
theorem dX12_findsParts_173 : decode cX12_findsParts 173 = .ok (.iconst 1, 1) := dk_get dk_d05_532 5 rfl
theorem dX12_findsParts_174 : decode cX12_findsParts 174 = .ok (.iadd, 1) := dk_get dk_d05_532 6 rfl
theorem dX12_findsParts_175 : decode cX12_findsParts 175 = .ok (.invokevirtual 332, 3) := dk_get dk_d05_532 7 rfl
theorem dX12_findsParts_178 : decode cX12_findsParts 178 = .ok (.if_icmp .ne 17, 3) := dk_get dk_d05_532 8 rfl
theorem dX12_findsParts_181 : decode cX12_findsParts 181 = .ok (.aload_n 0, 1) := dk_get dk_d05_532 9 rfl
theorem dX12_findsParts_182 : decode cX12_findsParts 182 = .ok (.iload_n 3, 1) := dk_get dk_d05_532 10 rfl
theorem dX12_findsParts_183 : decode cX12_findsParts 183 = .ok (.aload_n 0, 1) := dk_get dk_d05_532 11 rfl
theorem dX12_findsParts_184 : decode cX12_findsParts 184 = .ok (.getfield 80, 3) := dk_get dk_d05_532 12 rfl
theorem dX12_findsParts_187 : decode cX12_findsParts 187 = .ok (.iload_n 2, 1) := dk_get dk_d05_532 13 rfl
theorem dX12_findsParts_188 : decode cX12_findsParts 188 = .ok (.iconst 1, 1) := dk_get dk_d05_532 14 rfl
theorem dX12_findsParts_189 : decode cX12_findsParts 189 = .ok (.iadd, 1) := dk_get dk_d05_532 15 rfl
theorem dX12_findsParts_190 : decode cX12_findsParts 190 = .ok (.iaload, 1) := dk_get dk_d05_532 16 rfl
theorem dX12_findsParts_191 : decode cX12_findsParts 191 = .ok (.invokevirtual 363, 3) := dk_get dk_d05_532 17 rfl
theorem dX12_findsParts_194 : decode cX12_findsParts 194 = .ok (.istore_n 3, 1) := dk_get dk_d05_532 18 rfl
theorem dX12_findsParts_195 : decode cX12_findsParts 195 = .ok (.iload_n 3, 1) := dk_get dk_d05_532 19 rfl
theorem dX12_findsParts_196 : decode cX12_findsParts 196 = .ok (.aload_n 0, 1) := dk_get dk_d05_532 20 rfl
theorem dX12_findsParts_197 : decode cX12_findsParts 197 = .ok (.getfield 80, 3) := dk_get dk_d05_532 21 rfl
theorem dX12_findsParts_200 : decode cX12_findsParts 200 = .ok (.iload_n 2, 1) := dk_get dk_d05_532 22 rfl
theorem dX12_findsParts_201 : decode cX12_findsParts 201 = .ok (.iaload, 1) := dk_get dk_d05_532 23 rfl
theorem dX12_findsParts_202 : decode cX12_findsParts 202 = .ok (.if_icmp .ne 6, 3) := dk_get dk_d05_532 24 rfl
theorem dk_d05_533 : dkc cX12_findsParts [(205, .goto 12, 3), (208, .aload_n 0, 1), (209, .getfield 80, 3), (212, .iload_n 2, 1), (213, .iload_n 3, 1), (214, .iastore, 1), (215, .iconst 1, 1), (216, .istore_n 1, 1), (217, .iinc 2 1, 3), (220, .goto (-188), 3), (223, .goto (-199), 3), (226, .return_, 1)] = true := by decide +kernel
theorem dX12_findsParts_205 : decode cX12_findsParts 205 = .ok (.goto 12, 3) := dk_get dk_d05_533 0 rfl
theorem dX12_findsParts_208 : decode cX12_findsParts 208 = .ok (.aload_n 0, 1) := dk_get dk_d05_533 1 rfl
theorem dX12_findsParts_209 : decode cX12_findsParts 209 = .ok (.getfield 80, 3) := dk_get dk_d05_533 2 rfl
theorem dX12_findsParts_212 : decode cX12_findsParts 212 = .ok (.iload_n 2, 1) := dk_get dk_d05_533 3 rfl
theorem dX12_findsParts_213 : decode cX12_findsParts 213 = .ok (.iload_n 3, 1) := dk_get dk_d05_533 4 rfl
theorem dX12_findsParts_214 : decode cX12_findsParts 214 = .ok (.iastore, 1) := dk_get dk_d05_533 5 rfl
theorem dX12_findsParts_215 : decode cX12_findsParts 215 = .ok (.iconst 1, 1) := dk_get dk_d05_533 6 rfl
theorem dX12_findsParts_216 : decode cX12_findsParts 216 = .ok (.istore_n 1, 1) := dk_get dk_d05_533 7 rfl
theorem dX12_findsParts_217 : decode cX12_findsParts 217 = .ok (.iinc 2 1, 3) := dk_get dk_d05_533 8 rfl
theorem dX12_findsParts_220 : decode cX12_findsParts 220 = .ok (.goto (-188), 3) := dk_get dk_d05_533 9 rfl
theorem dX12_findsParts_223 : decode cX12_findsParts 223 = .ok (.goto (-199), 3) := dk_get dk_d05_533 10 rfl
theorem dX12_findsParts_226 : decode cX12_findsParts 226 = .ok (.return_, 1) := dk_get dk_d05_533 11 rfl
theorem dk_d05_534 : dkc cX12_partOf [(0, .iconst 0, 1), (1, .istore_n 2, 1), (2, .iconst 0, 1), (3, .istore_n 3, 1), (4, .iload_n 3, 1), (5, .sipush 144, 3), (8, .if_icmp .ge 23, 3), (11, .aload_n 0, 1), (12, .getfield 80, 3), (15, .iload_n 3, 1), (16, .iaload, 1), (17, .iload_n 1, 1), (18, .if_icmp .ne 7, 3), (21, .iload_n 2, 1), (22, .iconst 1, 1), (23, .iadd, 1), (24, .istore_n 2, 1), (25, .iinc 3 1, 3), (28, .goto (-24), 3), (31, .iload_n 2, 1), (32, .ireturn, 1)] = true := by decide +kernel
theorem dX12_partOf_0 : decode cX12_partOf 0 = .ok (.iconst 0, 1) := dk_get dk_d05_534 0 rfl
theorem dX12_partOf_1 : decode cX12_partOf 1 = .ok (.istore_n 2, 1) := dk_get dk_d05_534 1 rfl
theorem dX12_partOf_2 : decode cX12_partOf 2 = .ok (.iconst 0, 1) := dk_get dk_d05_534 2 rfl
theorem dX12_partOf_3 : decode cX12_partOf 3 = .ok (.istore_n 3, 1) := dk_get dk_d05_534 3 rfl
theorem dX12_partOf_4 : decode cX12_partOf 4 = .ok (.iload_n 3, 1) := dk_get dk_d05_534 4 rfl
theorem dX12_partOf_5 : decode cX12_partOf 5 = .ok (.sipush 144, 3) := dk_get dk_d05_534 5 rfl
theorem dX12_partOf_8 : decode cX12_partOf 8 = .ok (.if_icmp .ge 23, 3) := dk_get dk_d05_534 6 rfl
theorem dX12_partOf_11 : decode cX12_partOf 11 = .ok (.aload_n 0, 1) := dk_get dk_d05_534 7 rfl
theorem dX12_partOf_12 : decode cX12_partOf 12 = .ok (.getfield 80, 3) := dk_get dk_d05_534 8 rfl
theorem dX12_partOf_15 : decode cX12_partOf 15 = .ok (.iload_n 3, 1) := dk_get dk_d05_534 9 rfl
theorem dX12_partOf_16 : decode cX12_partOf 16 = .ok (.iaload, 1) := dk_get dk_d05_534 10 rfl
theorem dX12_partOf_17 : decode cX12_partOf 17 = .ok (.iload_n 1, 1) := dk_get dk_d05_534 11 rfl
theorem dX12_partOf_18 : decode cX12_partOf 18 = .ok (.if_icmp .ne 7, 3) := dk_get dk_d05_534 12 rfl
theorem dX12_partOf_21 : decode cX12_partOf 21 = .ok (.iload_n 2, 1) := dk_get dk_d05_534 13 rfl
theorem dX12_partOf_22 : decode cX12_partOf 22 = .ok (.iconst 1, 1) := dk_get dk_d05_534 14 rfl
theorem dX12_partOf_23 : decode cX12_partOf 23 = .ok (.iadd, 1) := dk_get dk_d05_534 15 rfl
theorem dX12_partOf_24 : decode cX12_partOf 24 = .ok (.istore_n 2, 1) := dk_get dk_d05_534 16 rfl
theorem dX12_partOf_25 : decode cX12_partOf 25 = .ok (.iinc 3 1, 3) := dk_get dk_d05_534 17 rfl
theorem dX12_partOf_28 : decode cX12_partOf 28 = .ok (.goto (-24), 3) := dk_get dk_d05_534 18 rfl
theorem dX12_partOf_31 : decode cX12_partOf 31 = .ok (.iload_n 2, 1) := dk_get dk_d05_534 19 rfl
theorem dX12_partOf_32 : decode cX12_partOf 32 = .ok (.ireturn, 1) := dk_get dk_d05_534 20 rfl
theorem dk_d05_535 : dkc cX12_isAtEdge [(0, .iload_n 1, 1), (1, .bipush 12, 2), (3, .if_icmp .lt 26, 3), (6, .iload_n 1, 1), (7, .sipush 132, 3), (10, .if_icmp .ge 19, 3), (13, .iload_n 1, 1), (14, .bipush 12, 2), (16, .irem, 1), (17, .ifCond .eq 12, 3), (20, .iload_n 1, 1), (21, .bipush 12, 2), (23, .irem, 1), (24, .bipush 11, 2), (26, .if_icmp .ne 7, 3), (29, .iconst 1, 1), (30, .goto 4, 3), (33, .iconst 0, 1), (34, .ireturn, 1)] = true := by decide +kernel
theorem dX12_isAtEdge_0 : decode cX12_isAtEdge 0 = .ok (.iload_n 1, 1) := dk_get dk_d05_535 0 rfl
theorem dX12_isAtEdge_1 : decode cX12_isAtEdge 1 = .ok (.bipush 12, 2) := dk_get dk_d05_535 1 rfl
theorem dX12_isAtEdge_3 : decode cX12_isAtEdge 3 = .ok (.if_icmp .lt 26, 3) := dk_get dk_d05_535 2 rfl
theorem dX12_isAtEdge_6 : decode cX12_isAtEdge 6 = .ok (.iload_n 1, 1) := dk_get dk_d05_535 3 rfl
theorem dX12_isAtEdge_7 : decode cX12_isAtEdge 7 = .ok (.sipush 132, 3) := dk_get dk_d05_535 4 rfl
theorem dX12_isAtEdge_10 : decode cX12_isAtEdge 10 = .ok (.if_icmp .ge 19, 3) := dk_get dk_d05_535 5 rfl
theorem dX12_isAtEdge_13 : decode cX12_isAtEdge 13 = .ok (.iload_n 1, 1) := dk_get dk_d05_535 6 rfl
theorem dX12_isAtEdge_14 : decode cX12_isAtEdge 14 = .ok (.bipush 12, 2) := dk_get dk_d05_535 7 rfl
theorem dX12_isAtEdge_16 : decode cX12_isAtEdge 16 = .ok (.irem, 1) := dk_get dk_d05_535 8 rfl
theorem dX12_isAtEdge_17 : decode cX12_isAtEdge 17 = .ok (.ifCond .eq 12, 3) := dk_get dk_d05_535 9 rfl
theorem dX12_isAtEdge_20 : decode cX12_isAtEdge 20 = .ok (.iload_n 1, 1) := dk_get dk_d05_535 10 rfl
theorem dX12_isAtEdge_21 : decode cX12_isAtEdge 21 = .ok (.bipush 12, 2) := dk_get dk_d05_535 11 rfl
theorem dX12_isAtEdge_23 : decode cX12_isAtEdge 23 = .ok (.irem, 1) := dk_get dk_d05_535 12 rfl
theorem dX12_isAtEdge_24 : decode cX12_isAtEdge 24 = .ok (.bipush 11, 2) := dk_get dk_d05_535 13 rfl
theorem dX12_isAtEdge_26 : decode cX12_isAtEdge 26 = .ok (.if_icmp .ne 7, 3) := dk_get dk_d05_535 14 rfl
theorem dX12_isAtEdge_29 : decode cX12_isAtEdge 29 = .ok (.iconst 1, 1) := dk_get dk_d05_535 15 rfl
theorem dX12_isAtEdge_30 : decode cX12_isAtEdge 30 = .ok (.goto 4, 3) := dk_get dk_d05_535 16 rfl
theorem dX12_isAtEdge_33 : decode cX12_isAtEdge 33 = .ok (.iconst 0, 1) := dk_get dk_d05_535 17 rfl
theorem dX12_isAtEdge_34 : decode cX12_isAtEdge 34 = .ok (.ireturn, 1) := dk_get dk_d05_535 18 rfl
theorem dk_d05_536 : dkc cX12_holes [(0, .iconst 0, 1), (1, .istore_n 1, 1), (2, .iconst 0, 1), (3, .istore_n 2, 1), (4, .iload_n 2, 1), (5, .sipush 144, 3), (8, .if_icmp .ge 79, 3), (11, .aload_n 0, 1), (12, .getfield 80, 3), (15, .iload_n 2, 1), (16, .iaload, 1), (17, .iload_n 2, 1), (18, .if_icmp .ne 63, 3), (21, .aload_n 0, 1), (22, .iload_n 2, 1), (23, .invokevirtual 332, 3), (26, .ifCond .eq 6, 3), (29, .goto 52, 3), (32, .iconst 1, 1), (33, .istore_n 3, 1), (34, .iconst 0, 1), (35, .istore 4, 2), (37, .iload 4, 2), (39, .sipush 144, 3), (42, .if_icmp .ge 31, 3)] = true := by decide +kernel
theorem dX12_holes_0 : decode cX12_holes 0 = .ok (.iconst 0, 1) := dk_get dk_d05_536 0 rfl
theorem dX12_holes_1 : decode cX12_holes 1 = .ok (.istore_n 1, 1) := dk_get dk_d05_536 1 rfl
theorem dX12_holes_2 : decode cX12_holes 2 = .ok (.iconst 0, 1) := dk_get dk_d05_536 2 rfl
theorem dX12_holes_3 : decode cX12_holes 3 = .ok (.istore_n 2, 1) := dk_get dk_d05_536 3 rfl
theorem dX12_holes_4 : decode cX12_holes 4 = .ok (.iload_n 2, 1) := dk_get dk_d05_536 4 rfl
theorem dX12_holes_5 : decode cX12_holes 5 = .ok (.sipush 144, 3) := dk_get dk_d05_536 5 rfl
theorem dX12_holes_8 : decode cX12_holes 8 = .ok (.if_icmp .ge 79, 3) := dk_get dk_d05_536 6 rfl
theorem dX12_holes_11 : decode cX12_holes 11 = .ok (.aload_n 0, 1) := dk_get dk_d05_536 7 rfl
theorem dX12_holes_12 : decode cX12_holes 12 = .ok (.getfield 80, 3) := dk_get dk_d05_536 8 rfl
theorem dX12_holes_15 : decode cX12_holes 15 = .ok (.iload_n 2, 1) := dk_get dk_d05_536 9 rfl
theorem dX12_holes_16 : decode cX12_holes 16 = .ok (.iaload, 1) := dk_get dk_d05_536 10 rfl
theorem dX12_holes_17 : decode cX12_holes 17 = .ok (.iload_n 2, 1) := dk_get dk_d05_536 11 rfl
theorem dX12_holes_18 : decode cX12_holes 18 = .ok (.if_icmp .ne 63, 3) := dk_get dk_d05_536 12 rfl
theorem dX12_holes_21 : decode cX12_holes 21 = .ok (.aload_n 0, 1) := dk_get dk_d05_536 13 rfl
theorem dX12_holes_22 : decode cX12_holes 22 = .ok (.iload_n 2, 1) := dk_get dk_d05_536 14 rfl
theorem dX12_holes_23 : decode cX12_holes 23 = .ok (.invokevirtual 332, 3) := dk_get dk_d05_536 15 rfl
theorem dX12_holes_26 : decode cX12_holes 26 = .ok (.ifCond .eq 6, 3) := dk_get dk_d05_536 16 rfl
theorem dX12_holes_29 : decode cX12_holes 29 = .ok (.goto 52, 3) := dk_get dk_d05_536 17 rfl
theorem dX12_holes_32 : decode cX12_holes 32 = .ok (.iconst 1, 1) := dk_get dk_d05_536 18 rfl
theorem dX12_holes_33 : decode cX12_holes 33 = .ok (.istore_n 3, 1) := dk_get dk_d05_536 19 rfl
theorem dX12_holes_34 : decode cX12_holes 34 = .ok (.iconst 0, 1) := dk_get dk_d05_536 20 rfl
theorem dX12_holes_35 : decode cX12_holes 35 = .ok (.istore 4, 2) := dk_get dk_d05_536 21 rfl
theorem dX12_holes_37 : decode cX12_holes 37 = .ok (.iload 4, 2) := dk_get dk_d05_536 22 rfl
theorem dX12_holes_39 : decode cX12_holes 39 = .ok (.sipush 144, 3) := dk_get dk_d05_536 23 rfl
theorem dX12_holes_42 : decode cX12_holes 42 = .ok (.if_icmp .ge 31, 3) := dk_get dk_d05_536 24 rfl
theorem dk_d05_537 : dkc cX12_holes [(45, .aload_n 0, 1), (46, .getfield 80, 3), (49, .iload 4, 2), (51, .iaload, 1), (52, .iload_n 2, 1), (53, .if_icmp .ne 14, 3), (56, .aload_n 0, 1), (57, .iload 4, 2), (59, .invokevirtual 415, 3), (62, .ifCond .eq 5, 3), (65, .iconst 0, 1), (66, .istore_n 3, 1), (67, .iinc 4 1, 3), (70, .goto (-33), 3), (73, .iload_n 3, 1), (74, .ifCond .eq 7, 3), (77, .iload_n 1, 1), (78, .iconst 1, 1), (79, .iadd, 1), (80, .istore_n 1, 1), (81, .iinc 2 1, 3), (84, .goto (-80), 3), (87, .iload_n 1, 1), (88, .ireturn, 1)] = true := by decide +kernel
theorem dX12_holes_45 : decode cX12_holes 45 = .ok (.aload_n 0, 1) := dk_get dk_d05_537 0 rfl
theorem dX12_holes_46 : decode cX12_holes 46 = .ok (.getfield 80, 3) := dk_get dk_d05_537 1 rfl
theorem dX12_holes_49 : decode cX12_holes 49 = .ok (.iload 4, 2) := dk_get dk_d05_537 2 rfl
theorem dX12_holes_51 : decode cX12_holes 51 = .ok (.iaload, 1) := dk_get dk_d05_537 3 rfl
theorem dX12_holes_52 : decode cX12_holes 52 = .ok (.iload_n 2, 1) := dk_get dk_d05_537 4 rfl
theorem dX12_holes_53 : decode cX12_holes 53 = .ok (.if_icmp .ne 14, 3) := dk_get dk_d05_537 5 rfl
theorem dX12_holes_56 : decode cX12_holes 56 = .ok (.aload_n 0, 1) := dk_get dk_d05_537 6 rfl
theorem dX12_holes_57 : decode cX12_holes 57 = .ok (.iload 4, 2) := dk_get dk_d05_537 7 rfl
theorem dX12_holes_59 : decode cX12_holes 59 = .ok (.invokevirtual 415, 3) := dk_get dk_d05_537 8 rfl
theorem dX12_holes_62 : decode cX12_holes 62 = .ok (.ifCond .eq 5, 3) := dk_get dk_d05_537 9 rfl
theorem dX12_holes_65 : decode cX12_holes 65 = .ok (.iconst 0, 1) := dk_get dk_d05_537 10 rfl
theorem dX12_holes_66 : decode cX12_holes 66 = .ok (.istore_n 3, 1) := dk_get dk_d05_537 11 rfl
theorem dX12_holes_67 : decode cX12_holes 67 = .ok (.iinc 4 1, 3) := dk_get dk_d05_537 12 rfl
theorem dX12_holes_70 : decode cX12_holes 70 = .ok (.goto (-33), 3) := dk_get dk_d05_537 13 rfl
theorem dX12_holes_73 : decode cX12_holes 73 = .ok (.iload_n 3, 1) := dk_get dk_d05_537 14 rfl
theorem dX12_holes_74 : decode cX12_holes 74 = .ok (.ifCond .eq 7, 3) := dk_get dk_d05_537 15 rfl
theorem dX12_holes_77 : decode cX12_holes 77 = .ok (.iload_n 1, 1) := dk_get dk_d05_537 16 rfl
theorem dX12_holes_78 : decode cX12_holes 78 = .ok (.iconst 1, 1) := dk_get dk_d05_537 17 rfl
theorem dX12_holes_79 : decode cX12_holes 79 = .ok (.iadd, 1) := dk_get dk_d05_537 18 rfl
theorem dX12_holes_80 : decode cX12_holes 80 = .ok (.istore_n 1, 1) := dk_get dk_d05_537 19 rfl
theorem dX12_holes_81 : decode cX12_holes 81 = .ok (.iinc 2 1, 3) := dk_get dk_d05_537 20 rfl
theorem dX12_holes_84 : decode cX12_holes 84 = .ok (.goto (-80), 3) := dk_get dk_d05_537 21 rfl
theorem dX12_holes_87 : decode cX12_holes 87 = .ok (.iload_n 1, 1) := dk_get dk_d05_537 22 rfl
theorem dX12_holes_88 : decode cX12_holes 88 = .ok (.ireturn, 1) := dk_get dk_d05_537 23 rfl
theorem dk_d05_538 : dkc cX12_blobs [(0, .iconst 0, 1), (1, .istore_n 2, 1), (2, .iconst 0, 1), (3, .istore_n 3, 1), (4, .iconst 0, 1), (5, .istore 4, 2), (7, .iload 4, 2), (9, .sipush 144, 3), (12, .if_icmp .ge 49, 3), (15, .aload_n 0, 1), (16, .getfield 80, 3), (19, .iload 4, 2), (21, .iaload, 1), (22, .iload 4, 2), (24, .if_icmp .ne 31, 3), (27, .aload_n 0, 1), (28, .iload 4, 2), (30, .invokevirtual 332, 3), (33, .ifCond .ne 6, 3), (36, .goto 19, 3), (39, .iload_n 2, 1), (40, .iconst 1, 1), (41, .iadd, 1), (42, .istore_n 2, 1), (43, .aload_n 0, 1)] = true := by decide +kernel
theorem dX12_blobs_0 : decode cX12_blobs 0 = .ok (.iconst 0, 1) := dk_get dk_d05_538 0 rfl
theorem dX12_blobs_1 : decode cX12_blobs 1 = .ok (.istore_n 2, 1) := dk_get dk_d05_538 1 rfl
theorem dX12_blobs_2 : decode cX12_blobs 2 = .ok (.iconst 0, 1) := dk_get dk_d05_538 2 rfl
theorem dX12_blobs_3 : decode cX12_blobs 3 = .ok (.istore_n 3, 1) := dk_get dk_d05_538 3 rfl
theorem dX12_blobs_4 : decode cX12_blobs 4 = .ok (.iconst 0, 1) := dk_get dk_d05_538 4 rfl
theorem dX12_blobs_5 : decode cX12_blobs 5 = .ok (.istore 4, 2) := dk_get dk_d05_538 5 rfl
theorem dX12_blobs_7 : decode cX12_blobs 7 = .ok (.iload 4, 2) := dk_get dk_d05_538 6 rfl
theorem dX12_blobs_9 : decode cX12_blobs 9 = .ok (.sipush 144, 3) := dk_get dk_d05_538 7 rfl
theorem dX12_blobs_12 : decode cX12_blobs 12 = .ok (.if_icmp .ge 49, 3) := dk_get dk_d05_538 8 rfl
theorem dX12_blobs_15 : decode cX12_blobs 15 = .ok (.aload_n 0, 1) := dk_get dk_d05_538 9 rfl
theorem dX12_blobs_16 : decode cX12_blobs 16 = .ok (.getfield 80, 3) := dk_get dk_d05_538 10 rfl
theorem dX12_blobs_19 : decode cX12_blobs 19 = .ok (.iload 4, 2) := dk_get dk_d05_538 11 rfl
theorem dX12_blobs_21 : decode cX12_blobs 21 = .ok (.iaload, 1) := dk_get dk_d05_538 12 rfl
theorem dX12_blobs_22 : decode cX12_blobs 22 = .ok (.iload 4, 2) := dk_get dk_d05_538 13 rfl
theorem dX12_blobs_24 : decode cX12_blobs 24 = .ok (.if_icmp .ne 31, 3) := dk_get dk_d05_538 14 rfl
theorem dX12_blobs_27 : decode cX12_blobs 27 = .ok (.aload_n 0, 1) := dk_get dk_d05_538 15 rfl
theorem dX12_blobs_28 : decode cX12_blobs 28 = .ok (.iload 4, 2) := dk_get dk_d05_538 16 rfl
theorem dX12_blobs_30 : decode cX12_blobs 30 = .ok (.invokevirtual 332, 3) := dk_get dk_d05_538 17 rfl
theorem dX12_blobs_33 : decode cX12_blobs 33 = .ok (.ifCond .ne 6, 3) := dk_get dk_d05_538 18 rfl
theorem dX12_blobs_36 : decode cX12_blobs 36 = .ok (.goto 19, 3) := dk_get dk_d05_538 19 rfl
theorem dX12_blobs_39 : decode cX12_blobs 39 = .ok (.iload_n 2, 1) := dk_get dk_d05_538 20 rfl
theorem dX12_blobs_40 : decode cX12_blobs 40 = .ok (.iconst 1, 1) := dk_get dk_d05_538 21 rfl
theorem dX12_blobs_41 : decode cX12_blobs 41 = .ok (.iadd, 1) := dk_get dk_d05_538 22 rfl
theorem dX12_blobs_42 : decode cX12_blobs 42 = .ok (.istore_n 2, 1) := dk_get dk_d05_538 23 rfl
theorem dX12_blobs_43 : decode cX12_blobs 43 = .ok (.aload_n 0, 1) := dk_get dk_d05_538 24 rfl
theorem dk_d05_539 : dkc cX12_blobs [(44, .iload_n 3, 1), (45, .aload_n 0, 1), (46, .iload 4, 2), (48, .invokevirtual 418, 3), (51, .invokevirtual 421, 3), (54, .istore_n 3, 1), (55, .iinc 4 1, 3), (58, .goto (-51), 3), (61, .iload_n 1, 1), (62, .ifCond .eq 7, 3), (65, .iload_n 3, 1), (66, .goto 4, 3), (69, .iload_n 2, 1), (70, .ireturn, 1)] = true := by decide +kernel
theorem dX12_blobs_44 : decode cX12_blobs 44 = .ok (.iload_n 3, 1) := dk_get dk_d05_539 0 rfl
theorem dX12_blobs_45 : decode cX12_blobs 45 = .ok (.aload_n 0, 1) := dk_get dk_d05_539 1 rfl
theorem dX12_blobs_46 : decode cX12_blobs 46 = .ok (.iload 4, 2) := dk_get dk_d05_539 2 rfl
theorem dX12_blobs_48 : decode cX12_blobs 48 = .ok (.invokevirtual 418, 3) := dk_get dk_d05_539 3 rfl
theorem dX12_blobs_51 : decode cX12_blobs 51 = .ok (.invokevirtual 421, 3) := dk_get dk_d05_539 4 rfl
theorem dX12_blobs_54 : decode cX12_blobs 54 = .ok (.istore_n 3, 1) := dk_get dk_d05_539 5 rfl
theorem dX12_blobs_55 : decode cX12_blobs 55 = .ok (.iinc 4 1, 3) := dk_get dk_d05_539 6 rfl
theorem dX12_blobs_58 : decode cX12_blobs 58 = .ok (.goto (-51), 3) := dk_get dk_d05_539 7 rfl
theorem dX12_blobs_61 : decode cX12_blobs 61 = .ok (.iload_n 1, 1) := dk_get dk_d05_539 8 rfl
theorem dX12_blobs_62 : decode cX12_blobs 62 = .ok (.ifCond .eq 7, 3) := dk_get dk_d05_539 9 rfl
theorem dX12_blobs_65 : decode cX12_blobs 65 = .ok (.iload_n 3, 1) := dk_get dk_d05_539 10 rfl
theorem dX12_blobs_66 : decode cX12_blobs 66 = .ok (.goto 4, 3) := dk_get dk_d05_539 11 rfl
theorem dX12_blobs_69 : decode cX12_blobs 69 = .ok (.iload_n 2, 1) := dk_get dk_d05_539 12 rfl
theorem dX12_blobs_70 : decode cX12_blobs 70 = .ok (.ireturn, 1) := dk_get dk_d05_539 13 rfl
theorem dk_d05_540 : dkc cX12_notFace [(0, .iconst 0, 1), (1, .istore_n 1, 1), (2, .iconst 0, 1), (3, .istore_n 2, 1), (4, .iload_n 2, 1), (5, .bipush 12, 2), (7, .if_icmp .ge 65, 3), (10, .iconst 0, 1), (11, .istore_n 3, 1), (12, .iload_n 3, 1), (13, .bipush 6, 2), (15, .if_icmp .ge 51, 3), (18, .aload_n 0, 1), (19, .getfield 7, 3), (22, .sipush 211, 3), (25, .bipush 12, 2), (27, .iload_n 2, 1), (28, .imul, 1), (29, .iadd, 1), (30, .iload_n 3, 1), (31, .iadd, 1), (32, .iaload, 1), (33, .aload_n 0, 1), (34, .getfield 7, 3), (37, .sipush 211, 3)] = true := by decide +kernel
theorem dX12_notFace_0 : decode cX12_notFace 0 = .ok (.iconst 0, 1) := dk_get dk_d05_540 0 rfl
theorem dX12_notFace_1 : decode cX12_notFace 1 = .ok (.istore_n 1, 1) := dk_get dk_d05_540 1 rfl
theorem dX12_notFace_2 : decode cX12_notFace 2 = .ok (.iconst 0, 1) := dk_get dk_d05_540 2 rfl
theorem dX12_notFace_3 : decode cX12_notFace 3 = .ok (.istore_n 2, 1) := dk_get dk_d05_540 3 rfl
theorem dX12_notFace_4 : decode cX12_notFace 4 = .ok (.iload_n 2, 1) := dk_get dk_d05_540 4 rfl
theorem dX12_notFace_5 : decode cX12_notFace 5 = .ok (.bipush 12, 2) := dk_get dk_d05_540 5 rfl
theorem dX12_notFace_7 : decode cX12_notFace 7 = .ok (.if_icmp .ge 65, 3) := dk_get dk_d05_540 6 rfl
theorem dX12_notFace_10 : decode cX12_notFace 10 = .ok (.iconst 0, 1) := dk_get dk_d05_540 7 rfl
theorem dX12_notFace_11 : decode cX12_notFace 11 = .ok (.istore_n 3, 1) := dk_get dk_d05_540 8 rfl
theorem dX12_notFace_12 : decode cX12_notFace 12 = .ok (.iload_n 3, 1) := dk_get dk_d05_540 9 rfl
theorem dX12_notFace_13 : decode cX12_notFace 13 = .ok (.bipush 6, 2) := dk_get dk_d05_540 10 rfl
theorem dX12_notFace_15 : decode cX12_notFace 15 = .ok (.if_icmp .ge 51, 3) := dk_get dk_d05_540 11 rfl
theorem dX12_notFace_18 : decode cX12_notFace 18 = .ok (.aload_n 0, 1) := dk_get dk_d05_540 12 rfl
theorem dX12_notFace_19 : decode cX12_notFace 19 = .ok (.getfield 7, 3) := dk_get dk_d05_540 13 rfl
theorem dX12_notFace_22 : decode cX12_notFace 22 = .ok (.sipush 211, 3) := dk_get dk_d05_540 14 rfl
theorem dX12_notFace_25 : decode cX12_notFace 25 = .ok (.bipush 12, 2) := dk_get dk_d05_540 15 rfl
theorem dX12_notFace_27 : decode cX12_notFace 27 = .ok (.iload_n 2, 1) := dk_get dk_d05_540 16 rfl
theorem dX12_notFace_28 : decode cX12_notFace 28 = .ok (.imul, 1) := dk_get dk_d05_540 17 rfl
theorem dX12_notFace_29 : decode cX12_notFace 29 = .ok (.iadd, 1) := dk_get dk_d05_540 18 rfl
theorem dX12_notFace_30 : decode cX12_notFace 30 = .ok (.iload_n 3, 1) := dk_get dk_d05_540 19 rfl
theorem dX12_notFace_31 : decode cX12_notFace 31 = .ok (.iadd, 1) := dk_get dk_d05_540 20 rfl
theorem dX12_notFace_32 : decode cX12_notFace 32 = .ok (.iaload, 1) := dk_get dk_d05_540 21 rfl
theorem dX12_notFace_33 : decode cX12_notFace 33 = .ok (.aload_n 0, 1) := dk_get dk_d05_540 22 rfl
theorem dX12_notFace_34 : decode cX12_notFace 34 = .ok (.getfield 7, 3) := dk_get dk_d05_540 23 rfl
theorem dX12_notFace_37 : decode cX12_notFace 37 = .ok (.sipush 211, 3) := dk_get dk_d05_540 24 rfl
theorem dk_d05_541 : dkc cX12_notFace [(40, .bipush 12, 2), (42, .iload_n 2, 1), (43, .imul, 1), (44, .iadd, 1), (45, .bipush 12, 2), (47, .iadd, 1), (48, .iconst 1, 1), (49, .isub, 1), (50, .iload_n 3, 1), (51, .isub, 1), (52, .iaload, 1), (53, .if_icmp .eq 7, 3), (56, .iload_n 1, 1), (57, .iconst 1, 1), (58, .iadd, 1), (59, .istore_n 1, 1), (60, .iinc 3 1, 3), (63, .goto (-51), 3), (66, .iinc 2 1, 3), (69, .goto (-65), 3), (72, .iload_n 1, 1), (73, .ireturn, 1)] = true := by decide +kernel
theorem dX12_notFace_40 : decode cX12_notFace 40 = .ok (.bipush 12, 2) := dk_get dk_d05_541 0 rfl
theorem dX12_notFace_42 : decode cX12_notFace 42 = .ok (.iload_n 2, 1) := dk_get dk_d05_541 1 rfl
theorem dX12_notFace_43 : decode cX12_notFace 43 = .ok (.imul, 1) := dk_get dk_d05_541 2 rfl
theorem dX12_notFace_44 : decode cX12_notFace 44 = .ok (.iadd, 1) := dk_get dk_d05_541 3 rfl
theorem dX12_notFace_45 : decode cX12_notFace 45 = .ok (.bipush 12, 2) := dk_get dk_d05_541 4 rfl
theorem dX12_notFace_47 : decode cX12_notFace 47 = .ok (.iadd, 1) := dk_get dk_d05_541 5 rfl
theorem dX12_notFace_48 : decode cX12_notFace 48 = .ok (.iconst 1, 1) := dk_get dk_d05_541 6 rfl
theorem dX12_notFace_49 : decode cX12_notFace 49 = .ok (.isub, 1) := dk_get dk_d05_541 7 rfl
theorem dX12_notFace_50 : decode cX12_notFace 50 = .ok (.iload_n 3, 1) := dk_get dk_d05_541 8 rfl
theorem dX12_notFace_51 : decode cX12_notFace 51 = .ok (.isub, 1) := dk_get dk_d05_541 9 rfl
theorem dX12_notFace_52 : decode cX12_notFace 52 = .ok (.iaload, 1) := dk_get dk_d05_541 10 rfl
theorem dX12_notFace_53 : decode cX12_notFace 53 = .ok (.if_icmp .eq 7, 3) := dk_get dk_d05_541 11 rfl
theorem dX12_notFace_56 : decode cX12_notFace 56 = .ok (.iload_n 1, 1) := dk_get dk_d05_541 12 rfl
theorem dX12_notFace_57 : decode cX12_notFace 57 = .ok (.iconst 1, 1) := dk_get dk_d05_541 13 rfl
theorem dX12_notFace_58 : decode cX12_notFace 58 = .ok (.iadd, 1) := dk_get dk_d05_541 14 rfl
theorem dX12_notFace_59 : decode cX12_notFace 59 = .ok (.istore_n 1, 1) := dk_get dk_d05_541 15 rfl
theorem dX12_notFace_60 : decode cX12_notFace 60 = .ok (.iinc 3 1, 3) := dk_get dk_d05_541 16 rfl
theorem dX12_notFace_63 : decode cX12_notFace 63 = .ok (.goto (-51), 3) := dk_get dk_d05_541 17 rfl
theorem dX12_notFace_66 : decode cX12_notFace 66 = .ok (.iinc 2 1, 3) := dk_get dk_d05_541 18 rfl
theorem dX12_notFace_69 : decode cX12_notFace 69 = .ok (.goto (-65), 3) := dk_get dk_d05_541 19 rfl
theorem dX12_notFace_72 : decode cX12_notFace 72 = .ok (.iload_n 1, 1) := dk_get dk_d05_541 20 rfl
theorem dX12_notFace_73 : decode cX12_notFace 73 = .ok (.ireturn, 1) := dk_get dk_d05_541 21 rfl
theorem dk_d05_542 : dkc cX12_bareSquare [(0, .iconst (-1), 1), (1, .istore_n 2, 1), (2, .sipush 143, 3), (5, .istore_n 3, 1), (6, .iload_n 3, 1), (7, .ifCond .lt 127, 3), (10, .aload_n 0, 1), (11, .getfield 80, 3), (14, .iload_n 3, 1), (15, .aload_n 0, 1), (16, .iload_n 3, 1), (17, .invokevirtual 332, 3), (20, .ifCond .eq 7, 3), (23, .iconst 0, 1), (24, .goto 4, 3), (27, .iconst 1, 1), (28, .iastore, 1), (29, .iload_n 3, 1), (30, .sipush 132, 3), (33, .if_icmp .ge 64, 3), (36, .iload_n 3, 1), (37, .bipush 12, 2), (39, .irem, 1), (40, .bipush 11, 2), (42, .if_icmp .ge 55, 3)] = true := by decide +kernel
theorem dX12_bareSquare_0 : decode cX12_bareSquare 0 = .ok (.iconst (-1), 1) := dk_get dk_d05_542 0 rfl
theorem dX12_bareSquare_1 : decode cX12_bareSquare 1 = .ok (.istore_n 2, 1) := dk_get dk_d05_542 1 rfl
theorem dX12_bareSquare_2 : decode cX12_bareSquare 2 = .ok (.sipush 143, 3) := dk_get dk_d05_542 2 rfl
theorem dX12_bareSquare_5 : decode cX12_bareSquare 5 = .ok (.istore_n 3, 1) := dk_get dk_d05_542 3 rfl
theorem dX12_bareSquare_6 : decode cX12_bareSquare 6 = .ok (.iload_n 3, 1) := dk_get dk_d05_542 4 rfl
theorem dX12_bareSquare_7 : decode cX12_bareSquare 7 = .ok (.ifCond .lt 127, 3) := dk_get dk_d05_542 5 rfl
theorem dX12_bareSquare_10 : decode cX12_bareSquare 10 = .ok (.aload_n 0, 1) := dk_get dk_d05_542 6 rfl
theorem dX12_bareSquare_11 : decode cX12_bareSquare 11 = .ok (.getfield 80, 3) := dk_get dk_d05_542 7 rfl
theorem dX12_bareSquare_14 : decode cX12_bareSquare 14 = .ok (.iload_n 3, 1) := dk_get dk_d05_542 8 rfl
theorem dX12_bareSquare_15 : decode cX12_bareSquare 15 = .ok (.aload_n 0, 1) := dk_get dk_d05_542 9 rfl
theorem dX12_bareSquare_16 : decode cX12_bareSquare 16 = .ok (.iload_n 3, 1) := dk_get dk_d05_542 10 rfl
theorem dX12_bareSquare_17 : decode cX12_bareSquare 17 = .ok (.invokevirtual 332, 3) := dk_get dk_d05_542 11 rfl
theorem dX12_bareSquare_20 : decode cX12_bareSquare 20 = .ok (.ifCond .eq 7, 3) := dk_get dk_d05_542 12 rfl
theorem dX12_bareSquare_23 : decode cX12_bareSquare 23 = .ok (.iconst 0, 1) := dk_get dk_d05_542 13 rfl
theorem dX12_bareSquare_24 : decode cX12_bareSquare 24 = .ok (.goto 4, 3) := dk_get dk_d05_542 14 rfl
theorem dX12_bareSquare_27 : decode cX12_bareSquare 27 = .ok (.iconst 1, 1) := dk_get dk_d05_542 15 rfl
theorem dX12_bareSquare_28 : decode cX12_bareSquare 28 = .ok (.iastore, 1) := dk_get dk_d05_542 16 rfl
theorem dX12_bareSquare_29 : decode cX12_bareSquare 29 = .ok (.iload_n 3, 1) := dk_get dk_d05_542 17 rfl
theorem dX12_bareSquare_30 : decode cX12_bareSquare 30 = .ok (.sipush 132, 3) := dk_get dk_d05_542 18 rfl
theorem dX12_bareSquare_33 : decode cX12_bareSquare 33 = .ok (.if_icmp .ge 64, 3) := dk_get dk_d05_542 19 rfl
theorem dX12_bareSquare_36 : decode cX12_bareSquare 36 = .ok (.iload_n 3, 1) := dk_get dk_d05_542 20 rfl
theorem dX12_bareSquare_37 : decode cX12_bareSquare 37 = .ok (.bipush 12, 2) := dk_get dk_d05_542 21 rfl
theorem dX12_bareSquare_39 : decode cX12_bareSquare 39 = .ok (.irem, 1) := dk_get dk_d05_542 22 rfl
theorem dX12_bareSquare_40 : decode cX12_bareSquare 40 = .ok (.bipush 11, 2) := dk_get dk_d05_542 23 rfl
theorem dX12_bareSquare_42 : decode cX12_bareSquare 42 = .ok (.if_icmp .ge 55, 3) := dk_get dk_d05_542 24 rfl
theorem dk_d05_543 : dkc cX12_bareSquare [(45, .aload_n 0, 1), (46, .iload_n 3, 1), (47, .invokevirtual 332, 3), (50, .ifCond .ne 47, 3), (53, .aload_n 0, 1), (54, .getfield 80, 3), (57, .iload_n 3, 1), (58, .iconst 1, 1), (59, .aload_n 0, 1), (60, .aload_n 0, 1), (61, .getfield 80, 3), (64, .iload_n 3, 1), (65, .iconst 1, 1), (66, .iadd, 1), (67, .iaload, 1), (68, .aload_n 0, 1), (69, .aload_n 0, 1), (70, .getfield 80, 3), (73, .iload_n 3, 1), (74, .bipush 12, 2), (76, .iadd, 1), (77, .iaload, 1), (78, .aload_n 0, 1), (79, .getfield 80, 3), (82, .iload_n 3, 1)] = true := by decide +kernel
theorem dX12_bareSquare_45 : decode cX12_bareSquare 45 = .ok (.aload_n 0, 1) := dk_get dk_d05_543 0 rfl
theorem dX12_bareSquare_46 : decode cX12_bareSquare 46 = .ok (.iload_n 3, 1) := dk_get dk_d05_543 1 rfl
theorem dX12_bareSquare_47 : decode cX12_bareSquare 47 = .ok (.invokevirtual 332, 3) := dk_get dk_d05_543 2 rfl
theorem dX12_bareSquare_50 : decode cX12_bareSquare 50 = .ok (.ifCond .ne 47, 3) := dk_get dk_d05_543 3 rfl
theorem dX12_bareSquare_53 : decode cX12_bareSquare 53 = .ok (.aload_n 0, 1) := dk_get dk_d05_543 4 rfl
theorem dX12_bareSquare_54 : decode cX12_bareSquare 54 = .ok (.getfield 80, 3) := dk_get dk_d05_543 5 rfl
theorem dX12_bareSquare_57 : decode cX12_bareSquare 57 = .ok (.iload_n 3, 1) := dk_get dk_d05_543 6 rfl
theorem dX12_bareSquare_58 : decode cX12_bareSquare 58 = .ok (.iconst 1, 1) := dk_get dk_d05_543 7 rfl
theorem dX12_bareSquare_59 : decode cX12_bareSquare 59 = .ok (.aload_n 0, 1) := dk_get dk_d05_543 8 rfl
theorem dX12_bareSquare_60 : decode cX12_bareSquare 60 = .ok (.aload_n 0, 1) := dk_get dk_d05_543 9 rfl
theorem dX12_bareSquare_61 : decode cX12_bareSquare 61 = .ok (.getfield 80, 3) := dk_get dk_d05_543 10 rfl
theorem dX12_bareSquare_64 : decode cX12_bareSquare 64 = .ok (.iload_n 3, 1) := dk_get dk_d05_543 11 rfl
theorem dX12_bareSquare_65 : decode cX12_bareSquare 65 = .ok (.iconst 1, 1) := dk_get dk_d05_543 12 rfl
theorem dX12_bareSquare_66 : decode cX12_bareSquare 66 = .ok (.iadd, 1) := dk_get dk_d05_543 13 rfl
theorem dX12_bareSquare_67 : decode cX12_bareSquare 67 = .ok (.iaload, 1) := dk_get dk_d05_543 14 rfl
theorem dX12_bareSquare_68 : decode cX12_bareSquare 68 = .ok (.aload_n 0, 1) := dk_get dk_d05_543 15 rfl
theorem dX12_bareSquare_69 : decode cX12_bareSquare 69 = .ok (.aload_n 0, 1) := dk_get dk_d05_543 16 rfl
theorem dX12_bareSquare_70 : decode cX12_bareSquare 70 = .ok (.getfield 80, 3) := dk_get dk_d05_543 17 rfl
theorem dX12_bareSquare_73 : decode cX12_bareSquare 73 = .ok (.iload_n 3, 1) := dk_get dk_d05_543 18 rfl
theorem dX12_bareSquare_74 : decode cX12_bareSquare 74 = .ok (.bipush 12, 2) := dk_get dk_d05_543 19 rfl
theorem dX12_bareSquare_76 : decode cX12_bareSquare 76 = .ok (.iadd, 1) := dk_get dk_d05_543 20 rfl
theorem dX12_bareSquare_77 : decode cX12_bareSquare 77 = .ok (.iaload, 1) := dk_get dk_d05_543 21 rfl
theorem dX12_bareSquare_78 : decode cX12_bareSquare 78 = .ok (.aload_n 0, 1) := dk_get dk_d05_543 22 rfl
theorem dX12_bareSquare_79 : decode cX12_bareSquare 79 = .ok (.getfield 80, 3) := dk_get dk_d05_543 23 rfl
theorem dX12_bareSquare_82 : decode cX12_bareSquare 82 = .ok (.iload_n 3, 1) := dk_get dk_d05_543 24 rfl
theorem dk_d05_544 : dkc cX12_bareSquare [(83, .bipush 12, 2), (85, .iadd, 1), (86, .iconst 1, 1), (87, .iadd, 1), (88, .iaload, 1), (89, .invokevirtual 363, 3), (92, .invokevirtual 363, 3), (95, .iadd, 1), (96, .iastore, 1), (97, .aload_n 0, 1), (98, .getfield 80, 3), (101, .iload_n 3, 1), (102, .iaload, 1), (103, .ifCond .le 25, 3), (106, .iload_n 2, 1), (107, .iconst (-1), 1), (108, .if_icmp .eq 18, 3), (111, .aload_n 0, 1), (112, .getfield 80, 3), (115, .iload_n 3, 1), (116, .iaload, 1), (117, .aload_n 0, 1), (118, .getfield 80, 3), (121, .iload_n 2, 1), (122, .iaload, 1)] = true := by decide +kernel
theorem dX12_bareSquare_83 : decode cX12_bareSquare 83 = .ok (.bipush 12, 2) := dk_get dk_d05_544 0 rfl
theorem dX12_bareSquare_85 : decode cX12_bareSquare 85 = .ok (.iadd, 1) := dk_get dk_d05_544 1 rfl
theorem dX12_bareSquare_86 : decode cX12_bareSquare 86 = .ok (.iconst 1, 1) := dk_get dk_d05_544 2 rfl
theorem dX12_bareSquare_87 : decode cX12_bareSquare 87 = .ok (.iadd, 1) := dk_get dk_d05_544 3 rfl
theorem dX12_bareSquare_88 : decode cX12_bareSquare 88 = .ok (.iaload, 1) := dk_get dk_d05_544 4 rfl
theorem dX12_bareSquare_89 : decode cX12_bareSquare 89 = .ok (.invokevirtual 363, 3) := dk_get dk_d05_544 5 rfl
theorem dX12_bareSquare_92 : decode cX12_bareSquare 92 = .ok (.invokevirtual 363, 3) := dk_get dk_d05_544 6 rfl
theorem dX12_bareSquare_95 : decode cX12_bareSquare 95 = .ok (.iadd, 1) := dk_get dk_d05_544 7 rfl
theorem dX12_bareSquare_96 : decode cX12_bareSquare 96 = .ok (.iastore, 1) := dk_get dk_d05_544 8 rfl
theorem dX12_bareSquare_97 : decode cX12_bareSquare 97 = .ok (.aload_n 0, 1) := dk_get dk_d05_544 9 rfl
theorem dX12_bareSquare_98 : decode cX12_bareSquare 98 = .ok (.getfield 80, 3) := dk_get dk_d05_544 10 rfl
theorem dX12_bareSquare_101 : decode cX12_bareSquare 101 = .ok (.iload_n 3, 1) := dk_get dk_d05_544 11 rfl
theorem dX12_bareSquare_102 : decode cX12_bareSquare 102 = .ok (.iaload, 1) := dk_get dk_d05_544 12 rfl
theorem dX12_bareSquare_103 : decode cX12_bareSquare 103 = .ok (.ifCond .le 25, 3) := dk_get dk_d05_544 13 rfl
theorem dX12_bareSquare_106 : decode cX12_bareSquare 106 = .ok (.iload_n 2, 1) := dk_get dk_d05_544 14 rfl
theorem dX12_bareSquare_107 : decode cX12_bareSquare 107 = .ok (.iconst (-1), 1) := dk_get dk_d05_544 15 rfl
theorem dX12_bareSquare_108 : decode cX12_bareSquare 108 = .ok (.if_icmp .eq 18, 3) := dk_get dk_d05_544 16 rfl
theorem dX12_bareSquare_111 : decode cX12_bareSquare 111 = .ok (.aload_n 0, 1) := dk_get dk_d05_544 17 rfl
theorem dX12_bareSquare_112 : decode cX12_bareSquare 112 = .ok (.getfield 80, 3) := dk_get dk_d05_544 18 rfl
theorem dX12_bareSquare_115 : decode cX12_bareSquare 115 = .ok (.iload_n 3, 1) := dk_get dk_d05_544 19 rfl
theorem dX12_bareSquare_116 : decode cX12_bareSquare 116 = .ok (.iaload, 1) := dk_get dk_d05_544 20 rfl
theorem dX12_bareSquare_117 : decode cX12_bareSquare 117 = .ok (.aload_n 0, 1) := dk_get dk_d05_544 21 rfl
theorem dX12_bareSquare_118 : decode cX12_bareSquare 118 = .ok (.getfield 80, 3) := dk_get dk_d05_544 22 rfl
theorem dX12_bareSquare_121 : decode cX12_bareSquare 121 = .ok (.iload_n 2, 1) := dk_get dk_d05_544 23 rfl
theorem dX12_bareSquare_122 : decode cX12_bareSquare 122 = .ok (.iaload, 1) := dk_get dk_d05_544 24 rfl
theorem dk_d05_545 : dkc cX12_bareSquare [(123, .if_icmp .lt 5, 3), (126, .iload_n 3, 1), (127, .istore_n 2, 1), (128, .iinc 3 (-1), 3), (131, .goto (-125), 3), (134, .iload_n 1, 1), (135, .bipush 7, 2), (137, .if_icmp .ne 19, 3), (140, .iload_n 2, 1), (141, .iconst (-1), 1), (142, .if_icmp .ne 7, 3), (145, .iconst 0, 1), (146, .goto 9, 3), (149, .aload_n 0, 1), (150, .getfield 80, 3), (153, .iload_n 2, 1), (154, .iaload, 1), (155, .ireturn, 1), (156, .iload_n 2, 1), (157, .iconst (-1), 1), (158, .if_icmp .ne 7, 3), (161, .iconst (-1), 1), (162, .goto 20, 3), (165, .iload_n 1, 1), (166, .bipush 8, 2)] = true := by decide +kernel
theorem dX12_bareSquare_123 : decode cX12_bareSquare 123 = .ok (.if_icmp .lt 5, 3) := dk_get dk_d05_545 0 rfl
theorem dX12_bareSquare_126 : decode cX12_bareSquare 126 = .ok (.iload_n 3, 1) := dk_get dk_d05_545 1 rfl
theorem dX12_bareSquare_127 : decode cX12_bareSquare 127 = .ok (.istore_n 2, 1) := dk_get dk_d05_545 2 rfl
theorem dX12_bareSquare_128 : decode cX12_bareSquare 128 = .ok (.iinc 3 (-1), 3) := dk_get dk_d05_545 3 rfl
theorem dX12_bareSquare_131 : decode cX12_bareSquare 131 = .ok (.goto (-125), 3) := dk_get dk_d05_545 4 rfl
theorem dX12_bareSquare_134 : decode cX12_bareSquare 134 = .ok (.iload_n 1, 1) := dk_get dk_d05_545 5 rfl
theorem dX12_bareSquare_135 : decode cX12_bareSquare 135 = .ok (.bipush 7, 2) := dk_get dk_d05_545 6 rfl
theorem dX12_bareSquare_137 : decode cX12_bareSquare 137 = .ok (.if_icmp .ne 19, 3) := dk_get dk_d05_545 7 rfl
theorem dX12_bareSquare_140 : decode cX12_bareSquare 140 = .ok (.iload_n 2, 1) := dk_get dk_d05_545 8 rfl
theorem dX12_bareSquare_141 : decode cX12_bareSquare 141 = .ok (.iconst (-1), 1) := dk_get dk_d05_545 9 rfl
theorem dX12_bareSquare_142 : decode cX12_bareSquare 142 = .ok (.if_icmp .ne 7, 3) := dk_get dk_d05_545 10 rfl
theorem dX12_bareSquare_145 : decode cX12_bareSquare 145 = .ok (.iconst 0, 1) := dk_get dk_d05_545 11 rfl
theorem dX12_bareSquare_146 : decode cX12_bareSquare 146 = .ok (.goto 9, 3) := dk_get dk_d05_545 12 rfl
theorem dX12_bareSquare_149 : decode cX12_bareSquare 149 = .ok (.aload_n 0, 1) := dk_get dk_d05_545 13 rfl
theorem dX12_bareSquare_150 : decode cX12_bareSquare 150 = .ok (.getfield 80, 3) := dk_get dk_d05_545 14 rfl
theorem dX12_bareSquare_153 : decode cX12_bareSquare 153 = .ok (.iload_n 2, 1) := dk_get dk_d05_545 15 rfl
theorem dX12_bareSquare_154 : decode cX12_bareSquare 154 = .ok (.iaload, 1) := dk_get dk_d05_545 16 rfl
theorem dX12_bareSquare_155 : decode cX12_bareSquare 155 = .ok (.ireturn, 1) := dk_get dk_d05_545 17 rfl
theorem dX12_bareSquare_156 : decode cX12_bareSquare 156 = .ok (.iload_n 2, 1) := dk_get dk_d05_545 18 rfl
theorem dX12_bareSquare_157 : decode cX12_bareSquare 157 = .ok (.iconst (-1), 1) := dk_get dk_d05_545 19 rfl
theorem dX12_bareSquare_158 : decode cX12_bareSquare 158 = .ok (.if_icmp .ne 7, 3) := dk_get dk_d05_545 20 rfl
theorem dX12_bareSquare_161 : decode cX12_bareSquare 161 = .ok (.iconst (-1), 1) := dk_get dk_d05_545 21 rfl
theorem dX12_bareSquare_162 : decode cX12_bareSquare 162 = .ok (.goto 20, 3) := dk_get dk_d05_545 22 rfl
theorem dX12_bareSquare_165 : decode cX12_bareSquare 165 = .ok (.iload_n 1, 1) := dk_get dk_d05_545 23 rfl
theorem dX12_bareSquare_166 : decode cX12_bareSquare 166 = .ok (.bipush 8, 2) := dk_get dk_d05_545 24 rfl
theorem dk_d05_546 : dkc cX12_bareSquare [(168, .if_icmp .ne 10, 3), (171, .iload_n 2, 1), (172, .bipush 12, 2), (174, .idiv, 1), (175, .goto 7, 3), (178, .iload_n 2, 1), (179, .bipush 12, 2), (181, .irem, 1), (182, .ireturn, 1)] = true := by decide +kernel
theorem dX12_bareSquare_168 : decode cX12_bareSquare 168 = .ok (.if_icmp .ne 10, 3) := dk_get dk_d05_546 0 rfl
theorem dX12_bareSquare_171 : decode cX12_bareSquare 171 = .ok (.iload_n 2, 1) := dk_get dk_d05_546 1 rfl
theorem dX12_bareSquare_172 : decode cX12_bareSquare 172 = .ok (.bipush 12, 2) := dk_get dk_d05_546 2 rfl
theorem dX12_bareSquare_174 : decode cX12_bareSquare 174 = .ok (.idiv, 1) := dk_get dk_d05_546 3 rfl
theorem dX12_bareSquare_175 : decode cX12_bareSquare 175 = .ok (.goto 7, 3) := dk_get dk_d05_546 4 rfl
theorem dX12_bareSquare_178 : decode cX12_bareSquare 178 = .ok (.iload_n 2, 1) := dk_get dk_d05_546 5 rfl
theorem dX12_bareSquare_179 : decode cX12_bareSquare 179 = .ok (.bipush 12, 2) := dk_get dk_d05_546 6 rfl
theorem dX12_bareSquare_181 : decode cX12_bareSquare 181 = .ok (.irem, 1) := dk_get dk_d05_546 7 rfl
theorem dX12_bareSquare_182 : decode cX12_bareSquare 182 = .ok (.ireturn, 1) := dk_get dk_d05_546 8 rfl
theorem dk_d05_547 : dkc cX12_wax [(0, .aload_n 0, 1), (1, .iconst 0, 1), (2, .putfield 140, 3), (5, .aload_n 0, 1), (6, .iload_n 1, 1), (7, .iconst 0, 1), (8, .bipush 9, 2), (10, .invokevirtual 155, 3), (13, .ifCond .ne 7, 3), (16, .ldc_w 405, 3), (19, .ireturn, 1), (20, .iload_n 1, 1), (21, .ifCond .ne 8, 3), (24, .aload_n 0, 1), (25, .invokevirtual 387, 3), (28, .ireturn, 1), (29, .iload_n 1, 1), (30, .iconst 1, 1), (31, .if_icmp .ne 8, 3), (34, .aload_n 0, 1), (35, .invokevirtual 424, 3), (38, .ireturn, 1), (39, .iload_n 1, 1), (40, .iconst 5, 1), (41, .if_icmp .ne 16, 3)] = true := by decide +kernel
theorem dX12_wax_0 : decode cX12_wax 0 = .ok (.aload_n 0, 1) := dk_get dk_d05_547 0 rfl
theorem dX12_wax_1 : decode cX12_wax 1 = .ok (.iconst 0, 1) := dk_get dk_d05_547 1 rfl
theorem dX12_wax_2 : decode cX12_wax 2 = .ok (.putfield 140, 3) := dk_get dk_d05_547 2 rfl
theorem dX12_wax_5 : decode cX12_wax 5 = .ok (.aload_n 0, 1) := dk_get dk_d05_547 3 rfl
theorem dX12_wax_6 : decode cX12_wax 6 = .ok (.iload_n 1, 1) := dk_get dk_d05_547 4 rfl
theorem dX12_wax_7 : decode cX12_wax 7 = .ok (.iconst 0, 1) := dk_get dk_d05_547 5 rfl
theorem dX12_wax_8 : decode cX12_wax 8 = .ok (.bipush 9, 2) := dk_get dk_d05_547 6 rfl
theorem dX12_wax_10 : decode cX12_wax 10 = .ok (.invokevirtual 155, 3) := dk_get dk_d05_547 7 rfl
theorem dX12_wax_13 : decode cX12_wax 13 = .ok (.ifCond .ne 7, 3) := dk_get dk_d05_547 8 rfl
theorem dX12_wax_16 : decode cX12_wax 16 = .ok (.ldc_w 405, 3) := dk_get dk_d05_547 9 rfl
theorem dX12_wax_19 : decode cX12_wax 19 = .ok (.ireturn, 1) := dk_get dk_d05_547 10 rfl
theorem dX12_wax_20 : decode cX12_wax 20 = .ok (.iload_n 1, 1) := dk_get dk_d05_547 11 rfl
theorem dX12_wax_21 : decode cX12_wax 21 = .ok (.ifCond .ne 8, 3) := dk_get dk_d05_547 12 rfl
theorem dX12_wax_24 : decode cX12_wax 24 = .ok (.aload_n 0, 1) := dk_get dk_d05_547 13 rfl
theorem dX12_wax_25 : decode cX12_wax 25 = .ok (.invokevirtual 387, 3) := dk_get dk_d05_547 14 rfl
theorem dX12_wax_28 : decode cX12_wax 28 = .ok (.ireturn, 1) := dk_get dk_d05_547 15 rfl
theorem dX12_wax_29 : decode cX12_wax 29 = .ok (.iload_n 1, 1) := dk_get dk_d05_547 16 rfl
theorem dX12_wax_30 : decode cX12_wax 30 = .ok (.iconst 1, 1) := dk_get dk_d05_547 17 rfl
theorem dX12_wax_31 : decode cX12_wax 31 = .ok (.if_icmp .ne 8, 3) := dk_get dk_d05_547 18 rfl
theorem dX12_wax_34 : decode cX12_wax 34 = .ok (.aload_n 0, 1) := dk_get dk_d05_547 19 rfl
theorem dX12_wax_35 : decode cX12_wax 35 = .ok (.invokevirtual 424, 3) := dk_get dk_d05_547 20 rfl
theorem dX12_wax_38 : decode cX12_wax 38 = .ok (.ireturn, 1) := dk_get dk_d05_547 21 rfl
theorem dX12_wax_39 : decode cX12_wax 39 = .ok (.iload_n 1, 1) := dk_get dk_d05_547 22 rfl
theorem dX12_wax_40 : decode cX12_wax 40 = .ok (.iconst 5, 1) := dk_get dk_d05_547 23 rfl
theorem dX12_wax_41 : decode cX12_wax 41 = .ok (.if_icmp .ne 16, 3) := dk_get dk_d05_547 24 rfl
theorem dk_d05_548 : dkc cX12_wax [(44, .aload_n 0, 1), (45, .invokevirtual 427, 3), (48, .ifCond .ne 7, 3), (51, .iconst 1, 1), (52, .goto 4, 3), (55, .iconst 0, 1), (56, .ireturn, 1), (57, .iload_n 1, 1), (58, .bipush 6, 2), (60, .if_icmp .ne 8, 3), (63, .aload_n 0, 1), (64, .invokevirtual 427, 3), (67, .ireturn, 1), (68, .iload_n 1, 1), (69, .bipush 6, 2), (71, .if_icmp .le 9, 3), (74, .aload_n 0, 1), (75, .iload_n 1, 1), (76, .invokevirtual 430, 3), (79, .ireturn, 1), (80, .aload_n 0, 1), (81, .invokevirtual 433, 3), (84, .iload_n 1, 1), (85, .iconst 4, 1), (86, .if_icmp .ne 10, 3)] = true := by decide +kernel
theorem dX12_wax_44 : decode cX12_wax 44 = .ok (.aload_n 0, 1) := dk_get dk_d05_548 0 rfl
theorem dX12_wax_45 : decode cX12_wax 45 = .ok (.invokevirtual 427, 3) := dk_get dk_d05_548 1 rfl
theorem dX12_wax_48 : decode cX12_wax 48 = .ok (.ifCond .ne 7, 3) := dk_get dk_d05_548 2 rfl
theorem dX12_wax_51 : decode cX12_wax 51 = .ok (.iconst 1, 1) := dk_get dk_d05_548 3 rfl
theorem dX12_wax_52 : decode cX12_wax 52 = .ok (.goto 4, 3) := dk_get dk_d05_548 4 rfl
theorem dX12_wax_55 : decode cX12_wax 55 = .ok (.iconst 0, 1) := dk_get dk_d05_548 5 rfl
theorem dX12_wax_56 : decode cX12_wax 56 = .ok (.ireturn, 1) := dk_get dk_d05_548 6 rfl
theorem dX12_wax_57 : decode cX12_wax 57 = .ok (.iload_n 1, 1) := dk_get dk_d05_548 7 rfl
theorem dX12_wax_58 : decode cX12_wax 58 = .ok (.bipush 6, 2) := dk_get dk_d05_548 8 rfl
theorem dX12_wax_60 : decode cX12_wax 60 = .ok (.if_icmp .ne 8, 3) := dk_get dk_d05_548 9 rfl
theorem dX12_wax_63 : decode cX12_wax 63 = .ok (.aload_n 0, 1) := dk_get dk_d05_548 10 rfl
theorem dX12_wax_64 : decode cX12_wax 64 = .ok (.invokevirtual 427, 3) := dk_get dk_d05_548 11 rfl
theorem dX12_wax_67 : decode cX12_wax 67 = .ok (.ireturn, 1) := dk_get dk_d05_548 12 rfl
theorem dX12_wax_68 : decode cX12_wax 68 = .ok (.iload_n 1, 1) := dk_get dk_d05_548 13 rfl
theorem dX12_wax_69 : decode cX12_wax 69 = .ok (.bipush 6, 2) := dk_get dk_d05_548 14 rfl
theorem dX12_wax_71 : decode cX12_wax 71 = .ok (.if_icmp .le 9, 3) := dk_get dk_d05_548 15 rfl
theorem dX12_wax_74 : decode cX12_wax 74 = .ok (.aload_n 0, 1) := dk_get dk_d05_548 16 rfl
theorem dX12_wax_75 : decode cX12_wax 75 = .ok (.iload_n 1, 1) := dk_get dk_d05_548 17 rfl
theorem dX12_wax_76 : decode cX12_wax 76 = .ok (.invokevirtual 430, 3) := dk_get dk_d05_548 18 rfl
theorem dX12_wax_79 : decode cX12_wax 79 = .ok (.ireturn, 1) := dk_get dk_d05_548 19 rfl
theorem dX12_wax_80 : decode cX12_wax 80 = .ok (.aload_n 0, 1) := dk_get dk_d05_548 20 rfl
theorem dX12_wax_81 : decode cX12_wax 81 = .ok (.invokevirtual 433, 3) := dk_get dk_d05_548 21 rfl
theorem dX12_wax_84 : decode cX12_wax 84 = .ok (.iload_n 1, 1) := dk_get dk_d05_548 22 rfl
theorem dX12_wax_85 : decode cX12_wax 85 = .ok (.iconst 4, 1) := dk_get dk_d05_548 23 rfl
theorem dX12_wax_86 : decode cX12_wax 86 = .ok (.if_icmp .ne 10, 3) := dk_get dk_d05_548 24 rfl
theorem dk_d05_549 : dkc cX12_wax [(89, .aload_n 0, 1), (90, .invokevirtual 436, 3), (93, .goto 17, 3), (96, .aload_n 0, 1), (97, .iload_n 1, 1), (98, .iconst 3, 1), (99, .if_icmp .ne 7, 3), (102, .iconst 1, 1), (103, .goto 4, 3), (106, .iconst 0, 1), (107, .invokevirtual 439, 3), (110, .ireturn, 1)] = true := by decide +kernel
theorem dX12_wax_89 : decode cX12_wax 89 = .ok (.aload_n 0, 1) := dk_get dk_d05_549 0 rfl
theorem dX12_wax_90 : decode cX12_wax 90 = .ok (.invokevirtual 436, 3) := dk_get dk_d05_549 1 rfl
theorem dX12_wax_93 : decode cX12_wax 93 = .ok (.goto 17, 3) := dk_get dk_d05_549 2 rfl
theorem dX12_wax_96 : decode cX12_wax 96 = .ok (.aload_n 0, 1) := dk_get dk_d05_549 3 rfl
theorem dX12_wax_97 : decode cX12_wax 97 = .ok (.iload_n 1, 1) := dk_get dk_d05_549 4 rfl
theorem dX12_wax_98 : decode cX12_wax 98 = .ok (.iconst 3, 1) := dk_get dk_d05_549 5 rfl
theorem dX12_wax_99 : decode cX12_wax 99 = .ok (.if_icmp .ne 7, 3) := dk_get dk_d05_549 6 rfl
theorem dX12_wax_102 : decode cX12_wax 102 = .ok (.iconst 1, 1) := dk_get dk_d05_549 7 rfl
theorem dX12_wax_103 : decode cX12_wax 103 = .ok (.goto 4, 3) := dk_get dk_d05_549 8 rfl
theorem dX12_wax_106 : decode cX12_wax 106 = .ok (.iconst 0, 1) := dk_get dk_d05_549 9 rfl
theorem dX12_wax_107 : decode cX12_wax 107 = .ok (.invokevirtual 439, 3) := dk_get dk_d05_549 10 rfl
theorem dX12_wax_110 : decode cX12_wax 110 = .ok (.ireturn, 1) := dk_get dk_d05_549 11 rfl
theorem dk_d05_550 : dkc cX12_whose [(0, .aload_n 0, 1), (1, .iconst 0, 1), (2, .putfield 140, 3), (5, .aload_n 0, 1), (6, .iload_n 1, 1), (7, .iconst 0, 1), (8, .sipush 255, 3), (11, .invokevirtual 155, 3), (14, .ifCond .eq 14, 3), (17, .aload_n 0, 1), (18, .iload_n 2, 1), (19, .iconst (-1), 1), (20, .bipush 8, 2), (22, .invokevirtual 155, 3), (25, .ifCond .ne 5, 3), (28, .iconst (-1), 1), (29, .ireturn, 1), (30, .iconst 0, 1), (31, .istore_n 3, 1), (32, .iconst (-1), 1), (33, .istore 4, 2), (35, .iconst 0, 1), (36, .istore 5, 2), (38, .iload 5, 2), (40, .aload_n 0, 1)] = true := by decide +kernel
theorem dX12_whose_0 : decode cX12_whose 0 = .ok (.aload_n 0, 1) := dk_get dk_d05_550 0 rfl
theorem dX12_whose_1 : decode cX12_whose 1 = .ok (.iconst 0, 1) := dk_get dk_d05_550 1 rfl
theorem dX12_whose_2 : decode cX12_whose 2 = .ok (.putfield 140, 3) := dk_get dk_d05_550 2 rfl
theorem dX12_whose_5 : decode cX12_whose 5 = .ok (.aload_n 0, 1) := dk_get dk_d05_550 3 rfl
theorem dX12_whose_6 : decode cX12_whose 6 = .ok (.iload_n 1, 1) := dk_get dk_d05_550 4 rfl
theorem dX12_whose_7 : decode cX12_whose 7 = .ok (.iconst 0, 1) := dk_get dk_d05_550 5 rfl
theorem dX12_whose_8 : decode cX12_whose 8 = .ok (.sipush 255, 3) := dk_get dk_d05_550 6 rfl
theorem dX12_whose_11 : decode cX12_whose 11 = .ok (.invokevirtual 155, 3) := dk_get dk_d05_550 7 rfl
theorem dX12_whose_14 : decode cX12_whose 14 = .ok (.ifCond .eq 14, 3) := dk_get dk_d05_550 8 rfl
theorem dX12_whose_17 : decode cX12_whose 17 = .ok (.aload_n 0, 1) := dk_get dk_d05_550 9 rfl
theorem dX12_whose_18 : decode cX12_whose 18 = .ok (.iload_n 2, 1) := dk_get dk_d05_550 10 rfl
theorem dX12_whose_19 : decode cX12_whose 19 = .ok (.iconst (-1), 1) := dk_get dk_d05_550 11 rfl
theorem dX12_whose_20 : decode cX12_whose 20 = .ok (.bipush 8, 2) := dk_get dk_d05_550 12 rfl
theorem dX12_whose_22 : decode cX12_whose 22 = .ok (.invokevirtual 155, 3) := dk_get dk_d05_550 13 rfl
theorem dX12_whose_25 : decode cX12_whose 25 = .ok (.ifCond .ne 5, 3) := dk_get dk_d05_550 14 rfl
theorem dX12_whose_28 : decode cX12_whose 28 = .ok (.iconst (-1), 1) := dk_get dk_d05_550 15 rfl
theorem dX12_whose_29 : decode cX12_whose 29 = .ok (.ireturn, 1) := dk_get dk_d05_550 16 rfl
theorem dX12_whose_30 : decode cX12_whose 30 = .ok (.iconst 0, 1) := dk_get dk_d05_550 17 rfl
theorem dX12_whose_31 : decode cX12_whose 31 = .ok (.istore_n 3, 1) := dk_get dk_d05_550 18 rfl
theorem dX12_whose_32 : decode cX12_whose 32 = .ok (.iconst (-1), 1) := dk_get dk_d05_550 19 rfl
theorem dX12_whose_33 : decode cX12_whose 33 = .ok (.istore 4, 2) := dk_get dk_d05_550 20 rfl
theorem dX12_whose_35 : decode cX12_whose 35 = .ok (.iconst 0, 1) := dk_get dk_d05_550 21 rfl
theorem dX12_whose_36 : decode cX12_whose 36 = .ok (.istore 5, 2) := dk_get dk_d05_550 22 rfl
theorem dX12_whose_38 : decode cX12_whose 38 = .ok (.iload 5, 2) := dk_get dk_d05_550 23 rfl
theorem dX12_whose_40 : decode cX12_whose 40 = .ok (.aload_n 0, 1) := dk_get dk_d05_550 24 rfl
theorem dk_d05_551 : dkc cX12_whose [(41, .getfield 152, 3), (44, .if_icmp .ge 65, 3), (47, .aload_n 0, 1), (48, .iload_n 1, 1), (49, .aload_n 0, 1), (50, .getfield 19, 3), (53, .iload 5, 2), (55, .iaload, 1), (56, .ixor, 1), (57, .invokevirtual 443, 3), (60, .istore 6, 2), (62, .iload 6, 2), (64, .iload_n 2, 1), (65, .if_icmp .gt 10, 3), (68, .iload_n 3, 1), (69, .iconst 1, 1), (70, .iload 5, 2), (72, .ishl, 1), (73, .ior, 1), (74, .istore_n 3, 1), (75, .iload 4, 2), (77, .iconst (-1), 1), (78, .if_icmp .eq 21, 3), (81, .iload 6, 2), (83, .aload_n 0, 1)] = true := by decide +kernel
theorem dX12_whose_41 : decode cX12_whose 41 = .ok (.getfield 152, 3) := dk_get dk_d05_551 0 rfl
theorem dX12_whose_44 : decode cX12_whose 44 = .ok (.if_icmp .ge 65, 3) := dk_get dk_d05_551 1 rfl
theorem dX12_whose_47 : decode cX12_whose 47 = .ok (.aload_n 0, 1) := dk_get dk_d05_551 2 rfl
theorem dX12_whose_48 : decode cX12_whose 48 = .ok (.iload_n 1, 1) := dk_get dk_d05_551 3 rfl
theorem dX12_whose_49 : decode cX12_whose 49 = .ok (.aload_n 0, 1) := dk_get dk_d05_551 4 rfl
theorem dX12_whose_50 : decode cX12_whose 50 = .ok (.getfield 19, 3) := dk_get dk_d05_551 5 rfl
theorem dX12_whose_53 : decode cX12_whose 53 = .ok (.iload 5, 2) := dk_get dk_d05_551 6 rfl
theorem dX12_whose_55 : decode cX12_whose 55 = .ok (.iaload, 1) := dk_get dk_d05_551 7 rfl
theorem dX12_whose_56 : decode cX12_whose 56 = .ok (.ixor, 1) := dk_get dk_d05_551 8 rfl
theorem dX12_whose_57 : decode cX12_whose 57 = .ok (.invokevirtual 443, 3) := dk_get dk_d05_551 9 rfl
theorem dX12_whose_60 : decode cX12_whose 60 = .ok (.istore 6, 2) := dk_get dk_d05_551 10 rfl
theorem dX12_whose_62 : decode cX12_whose 62 = .ok (.iload 6, 2) := dk_get dk_d05_551 11 rfl
theorem dX12_whose_64 : decode cX12_whose 64 = .ok (.iload_n 2, 1) := dk_get dk_d05_551 12 rfl
theorem dX12_whose_65 : decode cX12_whose 65 = .ok (.if_icmp .gt 10, 3) := dk_get dk_d05_551 13 rfl
theorem dX12_whose_68 : decode cX12_whose 68 = .ok (.iload_n 3, 1) := dk_get dk_d05_551 14 rfl
theorem dX12_whose_69 : decode cX12_whose 69 = .ok (.iconst 1, 1) := dk_get dk_d05_551 15 rfl
theorem dX12_whose_70 : decode cX12_whose 70 = .ok (.iload 5, 2) := dk_get dk_d05_551 16 rfl
theorem dX12_whose_72 : decode cX12_whose 72 = .ok (.ishl, 1) := dk_get dk_d05_551 17 rfl
theorem dX12_whose_73 : decode cX12_whose 73 = .ok (.ior, 1) := dk_get dk_d05_551 18 rfl
theorem dX12_whose_74 : decode cX12_whose 74 = .ok (.istore_n 3, 1) := dk_get dk_d05_551 19 rfl
theorem dX12_whose_75 : decode cX12_whose 75 = .ok (.iload 4, 2) := dk_get dk_d05_551 20 rfl
theorem dX12_whose_77 : decode cX12_whose 77 = .ok (.iconst (-1), 1) := dk_get dk_d05_551 21 rfl
theorem dX12_whose_78 : decode cX12_whose 78 = .ok (.if_icmp .eq 21, 3) := dk_get dk_d05_551 22 rfl
theorem dX12_whose_81 : decode cX12_whose 81 = .ok (.iload 6, 2) := dk_get dk_d05_551 23 rfl
theorem dX12_whose_83 : decode cX12_whose 83 = .ok (.aload_n 0, 1) := dk_get dk_d05_551 24 rfl
theorem dk_d05_552 : dkc cX12_whose [(84, .iload_n 1, 1), (85, .aload_n 0, 1), (86, .getfield 19, 3), (89, .iload 4, 2), (91, .iaload, 1), (92, .ixor, 1), (93, .invokevirtual 443, 3), (96, .if_icmp .ge 7, 3), (99, .iload 5, 2), (101, .istore 4, 2), (103, .iinc 5 1, 3), (106, .goto (-68), 3), (109, .iload_n 2, 1), (110, .iconst (-1), 1), (111, .if_icmp .ne 8, 3), (114, .iload 4, 2), (116, .goto 4, 3), (119, .iload_n 3, 1), (120, .ireturn, 1)] = true := by decide +kernel
theorem dX12_whose_84 : decode cX12_whose 84 = .ok (.iload_n 1, 1) := dk_get dk_d05_552 0 rfl
theorem dX12_whose_85 : decode cX12_whose 85 = .ok (.aload_n 0, 1) := dk_get dk_d05_552 1 rfl
theorem dX12_whose_86 : decode cX12_whose 86 = .ok (.getfield 19, 3) := dk_get dk_d05_552 2 rfl
theorem dX12_whose_89 : decode cX12_whose 89 = .ok (.iload 4, 2) := dk_get dk_d05_552 3 rfl
theorem dX12_whose_91 : decode cX12_whose 91 = .ok (.iaload, 1) := dk_get dk_d05_552 4 rfl
theorem dX12_whose_92 : decode cX12_whose 92 = .ok (.ixor, 1) := dk_get dk_d05_552 5 rfl
theorem dX12_whose_93 : decode cX12_whose 93 = .ok (.invokevirtual 443, 3) := dk_get dk_d05_552 6 rfl
theorem dX12_whose_96 : decode cX12_whose 96 = .ok (.if_icmp .ge 7, 3) := dk_get dk_d05_552 7 rfl
theorem dX12_whose_99 : decode cX12_whose 99 = .ok (.iload 5, 2) := dk_get dk_d05_552 8 rfl
theorem dX12_whose_101 : decode cX12_whose 101 = .ok (.istore 4, 2) := dk_get dk_d05_552 9 rfl
theorem dX12_whose_103 : decode cX12_whose 103 = .ok (.iinc 5 1, 3) := dk_get dk_d05_552 10 rfl
theorem dX12_whose_106 : decode cX12_whose 106 = .ok (.goto (-68), 3) := dk_get dk_d05_552 11 rfl
theorem dX12_whose_109 : decode cX12_whose 109 = .ok (.iload_n 2, 1) := dk_get dk_d05_552 12 rfl
theorem dX12_whose_110 : decode cX12_whose 110 = .ok (.iconst (-1), 1) := dk_get dk_d05_552 13 rfl
theorem dX12_whose_111 : decode cX12_whose 111 = .ok (.if_icmp .ne 8, 3) := dk_get dk_d05_552 14 rfl
theorem dX12_whose_114 : decode cX12_whose 114 = .ok (.iload 4, 2) := dk_get dk_d05_552 15 rfl
theorem dX12_whose_116 : decode cX12_whose 116 = .ok (.goto 4, 3) := dk_get dk_d05_552 16 rfl
theorem dX12_whose_119 : decode cX12_whose 119 = .ok (.iload_n 3, 1) := dk_get dk_d05_552 17 rfl
theorem dX12_whose_120 : decode cX12_whose 120 = .ok (.ireturn, 1) := dk_get dk_d05_552 18 rfl
theorem dk_d05_553 : dkc cX12_could [(0, .aload_n 0, 1), (1, .iconst 0, 1), (2, .putfield 140, 3), (5, .aload_n 0, 1), (6, .iload_n 1, 1), (7, .invokevirtual 159, 3), (10, .ifCond .ne 5, 3), (13, .iconst (-1), 1), (14, .ireturn, 1), (15, .iconst 1, 1), (16, .iload_n 1, 1), (17, .ishl, 1), (18, .istore_n 2, 1), (19, .iconst 0, 1), (20, .istore_n 3, 1), (21, .iload_n 3, 1), (22, .bipush 20, 2), (24, .if_icmp .ge 47, 3), (27, .iconst 0, 1), (28, .istore 4, 2), (30, .iload 4, 2), (32, .aload_n 0, 1), (33, .getfield 152, 3), (36, .if_icmp .ge 29, 3), (39, .aload_n 0, 1)] = true := by decide +kernel
theorem dX12_could_0 : decode cX12_could 0 = .ok (.aload_n 0, 1) := dk_get dk_d05_553 0 rfl
theorem dX12_could_1 : decode cX12_could 1 = .ok (.iconst 0, 1) := dk_get dk_d05_553 1 rfl
theorem dX12_could_2 : decode cX12_could 2 = .ok (.putfield 140, 3) := dk_get dk_d05_553 2 rfl
theorem dX12_could_5 : decode cX12_could 5 = .ok (.aload_n 0, 1) := dk_get dk_d05_553 3 rfl
theorem dX12_could_6 : decode cX12_could 6 = .ok (.iload_n 1, 1) := dk_get dk_d05_553 4 rfl
theorem dX12_could_7 : decode cX12_could 7 = .ok (.invokevirtual 159, 3) := dk_get dk_d05_553 5 rfl
theorem dX12_could_10 : decode cX12_could 10 = .ok (.ifCond .ne 5, 3) := dk_get dk_d05_553 6 rfl
theorem dX12_could_13 : decode cX12_could 13 = .ok (.iconst (-1), 1) := dk_get dk_d05_553 7 rfl
theorem dX12_could_14 : decode cX12_could 14 = .ok (.ireturn, 1) := dk_get dk_d05_553 8 rfl
theorem dX12_could_15 : decode cX12_could 15 = .ok (.iconst 1, 1) := dk_get dk_d05_553 9 rfl
theorem dX12_could_16 : decode cX12_could 16 = .ok (.iload_n 1, 1) := dk_get dk_d05_553 10 rfl
theorem dX12_could_17 : decode cX12_could 17 = .ok (.ishl, 1) := dk_get dk_d05_553 11 rfl
theorem dX12_could_18 : decode cX12_could 18 = .ok (.istore_n 2, 1) := dk_get dk_d05_553 12 rfl
theorem dX12_could_19 : decode cX12_could 19 = .ok (.iconst 0, 1) := dk_get dk_d05_553 13 rfl
theorem dX12_could_20 : decode cX12_could 20 = .ok (.istore_n 3, 1) := dk_get dk_d05_553 14 rfl
theorem dX12_could_21 : decode cX12_could 21 = .ok (.iload_n 3, 1) := dk_get dk_d05_553 15 rfl
theorem dX12_could_22 : decode cX12_could 22 = .ok (.bipush 20, 2) := dk_get dk_d05_553 16 rfl
theorem dX12_could_24 : decode cX12_could 24 = .ok (.if_icmp .ge 47, 3) := dk_get dk_d05_553 17 rfl
theorem dX12_could_27 : decode cX12_could 27 = .ok (.iconst 0, 1) := dk_get dk_d05_553 18 rfl
theorem dX12_could_28 : decode cX12_could 28 = .ok (.istore 4, 2) := dk_get dk_d05_553 19 rfl
theorem dX12_could_30 : decode cX12_could 30 = .ok (.iload 4, 2) := dk_get dk_d05_553 20 rfl
theorem dX12_could_32 : decode cX12_could 32 = .ok (.aload_n 0, 1) := dk_get dk_d05_553 21 rfl
theorem dX12_could_33 : decode cX12_could 33 = .ok (.getfield 152, 3) := dk_get dk_d05_553 22 rfl
theorem dX12_could_36 : decode cX12_could 36 = .ok (.if_icmp .ge 29, 3) := dk_get dk_d05_553 23 rfl
theorem dX12_could_39 : decode cX12_could 39 = .ok (.aload_n 0, 1) := dk_get dk_d05_553 24 rfl
theorem dk_d05_554 : dkc cX12_could [(40, .iload_n 2, 1), (41, .iload 4, 2), (43, .invokevirtual 446, 3), (46, .ifCond .eq 13, 3), (49, .iload_n 2, 1), (50, .aload_n 0, 1), (51, .getfield 71, 3), (54, .iload 4, 2), (56, .iaload, 1), (57, .ior, 1), (58, .istore_n 2, 1), (59, .iinc 4 1, 3), (62, .goto (-32), 3), (65, .iinc 3 1, 3), (68, .goto (-47), 3), (71, .iload_n 2, 1), (72, .ireturn, 1)] = true := by decide +kernel
theorem dX12_could_40 : decode cX12_could 40 = .ok (.iload_n 2, 1) := dk_get dk_d05_554 0 rfl
theorem dX12_could_41 : decode cX12_could 41 = .ok (.iload 4, 2) := dk_get dk_d05_554 1 rfl
theorem dX12_could_43 : decode cX12_could 43 = .ok (.invokevirtual 446, 3) := dk_get dk_d05_554 2 rfl
theorem dX12_could_46 : decode cX12_could 46 = .ok (.ifCond .eq 13, 3) := dk_get dk_d05_554 3 rfl
theorem dX12_could_49 : decode cX12_could 49 = .ok (.iload_n 2, 1) := dk_get dk_d05_554 4 rfl
theorem dX12_could_50 : decode cX12_could 50 = .ok (.aload_n 0, 1) := dk_get dk_d05_554 5 rfl
theorem dX12_could_51 : decode cX12_could 51 = .ok (.getfield 71, 3) := dk_get dk_d05_554 6 rfl
theorem dX12_could_54 : decode cX12_could 54 = .ok (.iload 4, 2) := dk_get dk_d05_554 7 rfl
theorem dX12_could_56 : decode cX12_could 56 = .ok (.iaload, 1) := dk_get dk_d05_554 8 rfl
theorem dX12_could_57 : decode cX12_could 57 = .ok (.ior, 1) := dk_get dk_d05_554 9 rfl
theorem dX12_could_58 : decode cX12_could 58 = .ok (.istore_n 2, 1) := dk_get dk_d05_554 10 rfl
theorem dX12_could_59 : decode cX12_could 59 = .ok (.iinc 4 1, 3) := dk_get dk_d05_554 11 rfl
theorem dX12_could_62 : decode cX12_could 62 = .ok (.goto (-32), 3) := dk_get dk_d05_554 12 rfl
theorem dX12_could_65 : decode cX12_could 65 = .ok (.iinc 3 1, 3) := dk_get dk_d05_554 13 rfl
theorem dX12_could_68 : decode cX12_could 68 = .ok (.goto (-47), 3) := dk_get dk_d05_554 14 rfl
theorem dX12_could_71 : decode cX12_could 71 = .ok (.iload_n 2, 1) := dk_get dk_d05_554 15 rfl
theorem dX12_could_72 : decode cX12_could 72 = .ok (.ireturn, 1) := dk_get dk_d05_554 16 rfl
theorem dk_d05_555 : dkc cX12_party [(0, .aload_n 0, 1), (1, .iconst 0, 1), (2, .putfield 140, 3), (5, .iload_n 1, 1), (6, .iconst (-1), 1), (7, .if_icmp .ne 10, 3), (10, .aload_n 0, 1), (11, .iconst 0, 1), (12, .putfield 450, 3), (15, .iconst 0, 1), (16, .ireturn, 1), (17, .aload_n 0, 1), (18, .iload_n 1, 1), (19, .iconst 0, 1), (20, .sipush 999, 3), (23, .invokevirtual 155, 3), (26, .ifCond .eq 12, 3), (29, .aload_n 0, 1), (30, .getfield 450, 3), (33, .bipush 6, 2), (35, .if_icmp .ne 5, 3), (38, .iconst (-1), 1), (39, .ireturn, 1), (40, .aload_n 0, 1), (41, .getfield 83, 3)] = true := by decide +kernel
theorem dX12_party_0 : decode cX12_party 0 = .ok (.aload_n 0, 1) := dk_get dk_d05_555 0 rfl
theorem dX12_party_1 : decode cX12_party 1 = .ok (.iconst 0, 1) := dk_get dk_d05_555 1 rfl
theorem dX12_party_2 : decode cX12_party 2 = .ok (.putfield 140, 3) := dk_get dk_d05_555 2 rfl
theorem dX12_party_5 : decode cX12_party 5 = .ok (.iload_n 1, 1) := dk_get dk_d05_555 3 rfl
theorem dX12_party_6 : decode cX12_party 6 = .ok (.iconst (-1), 1) := dk_get dk_d05_555 4 rfl
theorem dX12_party_7 : decode cX12_party 7 = .ok (.if_icmp .ne 10, 3) := dk_get dk_d05_555 5 rfl
theorem dX12_party_10 : decode cX12_party 10 = .ok (.aload_n 0, 1) := dk_get dk_d05_555 6 rfl
theorem dX12_party_11 : decode cX12_party 11 = .ok (.iconst 0, 1) := dk_get dk_d05_555 7 rfl
theorem dX12_party_12 : decode cX12_party 12 = .ok (.putfield 450, 3) := dk_get dk_d05_555 8 rfl
theorem dX12_party_15 : decode cX12_party 15 = .ok (.iconst 0, 1) := dk_get dk_d05_555 9 rfl
theorem dX12_party_16 : decode cX12_party 16 = .ok (.ireturn, 1) := dk_get dk_d05_555 10 rfl
theorem dX12_party_17 : decode cX12_party 17 = .ok (.aload_n 0, 1) := dk_get dk_d05_555 11 rfl
theorem dX12_party_18 : decode cX12_party 18 = .ok (.iload_n 1, 1) := dk_get dk_d05_555 12 rfl
theorem dX12_party_19 : decode cX12_party 19 = .ok (.iconst 0, 1) := dk_get dk_d05_555 13 rfl
theorem dX12_party_20 : decode cX12_party 20 = .ok (.sipush 999, 3) := dk_get dk_d05_555 14 rfl
theorem dX12_party_23 : decode cX12_party 23 = .ok (.invokevirtual 155, 3) := dk_get dk_d05_555 15 rfl
theorem dX12_party_26 : decode cX12_party 26 = .ok (.ifCond .eq 12, 3) := dk_get dk_d05_555 16 rfl
theorem dX12_party_29 : decode cX12_party 29 = .ok (.aload_n 0, 1) := dk_get dk_d05_555 17 rfl
theorem dX12_party_30 : decode cX12_party 30 = .ok (.getfield 450, 3) := dk_get dk_d05_555 18 rfl
theorem dX12_party_33 : decode cX12_party 33 = .ok (.bipush 6, 2) := dk_get dk_d05_555 19 rfl
theorem dX12_party_35 : decode cX12_party 35 = .ok (.if_icmp .ne 5, 3) := dk_get dk_d05_555 20 rfl
theorem dX12_party_38 : decode cX12_party 38 = .ok (.iconst (-1), 1) := dk_get dk_d05_555 21 rfl
theorem dX12_party_39 : decode cX12_party 39 = .ok (.ireturn, 1) := dk_get dk_d05_555 22 rfl
theorem dX12_party_40 : decode cX12_party 40 = .ok (.aload_n 0, 1) := dk_get dk_d05_555 23 rfl
theorem dX12_party_41 : decode cX12_party 41 = .ok (.getfield 83, 3) := dk_get dk_d05_555 24 rfl
theorem dk_d05_556 : dkc cX12_party [(44, .aload_n 0, 1), (45, .getfield 450, 3), (48, .iload_n 1, 1), (49, .iastore, 1), (50, .aload_n 0, 1), (51, .aload_n 0, 1), (52, .getfield 450, 3), (55, .iconst 1, 1), (56, .iadd, 1), (57, .putfield 450, 3), (60, .aload_n 0, 1), (61, .getfield 450, 3), (64, .ireturn, 1)] = true := by decide +kernel
theorem dX12_party_44 : decode cX12_party 44 = .ok (.aload_n 0, 1) := dk_get dk_d05_556 0 rfl
theorem dX12_party_45 : decode cX12_party 45 = .ok (.getfield 450, 3) := dk_get dk_d05_556 1 rfl
theorem dX12_party_48 : decode cX12_party 48 = .ok (.iload_n 1, 1) := dk_get dk_d05_556 2 rfl
theorem dX12_party_49 : decode cX12_party 49 = .ok (.iastore, 1) := dk_get dk_d05_556 3 rfl
theorem dX12_party_50 : decode cX12_party 50 = .ok (.aload_n 0, 1) := dk_get dk_d05_556 4 rfl
theorem dX12_party_51 : decode cX12_party 51 = .ok (.aload_n 0, 1) := dk_get dk_d05_556 5 rfl
theorem dX12_party_52 : decode cX12_party 52 = .ok (.getfield 450, 3) := dk_get dk_d05_556 6 rfl
theorem dX12_party_55 : decode cX12_party 55 = .ok (.iconst 1, 1) := dk_get dk_d05_556 7 rfl
theorem dX12_party_56 : decode cX12_party 56 = .ok (.iadd, 1) := dk_get dk_d05_556 8 rfl
theorem dX12_party_57 : decode cX12_party 57 = .ok (.putfield 450, 3) := dk_get dk_d05_556 9 rfl
theorem dX12_party_60 : decode cX12_party 60 = .ok (.aload_n 0, 1) := dk_get dk_d05_556 10 rfl
theorem dX12_party_61 : decode cX12_party 61 = .ok (.getfield 450, 3) := dk_get dk_d05_556 11 rfl
theorem dX12_party_64 : decode cX12_party 64 = .ok (.ireturn, 1) := dk_get dk_d05_556 12 rfl
theorem dk_d05_557 : dkc cX12_shareBy [(0, .iload_n 2, 1), (1, .iconst 1, 1), (2, .iadd, 1), (3, .aload_n 0, 1), (4, .getfield 86, 3), (7, .iload_n 1, 1), (8, .iaload, 1), (9, .imul, 1), (10, .iconst 1, 1), (11, .iadd, 1), (12, .ireturn, 1)] = true := by decide +kernel
theorem dX12_shareBy_0 : decode cX12_shareBy 0 = .ok (.iload_n 2, 1) := dk_get dk_d05_557 0 rfl
theorem dX12_shareBy_1 : decode cX12_shareBy 1 = .ok (.iconst 1, 1) := dk_get dk_d05_557 1 rfl
theorem dX12_shareBy_2 : decode cX12_shareBy 2 = .ok (.iadd, 1) := dk_get dk_d05_557 2 rfl
theorem dX12_shareBy_3 : decode cX12_shareBy 3 = .ok (.aload_n 0, 1) := dk_get dk_d05_557 3 rfl
theorem dX12_shareBy_4 : decode cX12_shareBy 4 = .ok (.getfield 86, 3) := dk_get dk_d05_557 4 rfl
theorem dX12_shareBy_7 : decode cX12_shareBy 7 = .ok (.iload_n 1, 1) := dk_get dk_d05_557 5 rfl
theorem dX12_shareBy_8 : decode cX12_shareBy 8 = .ok (.iaload, 1) := dk_get dk_d05_557 6 rfl
theorem dX12_shareBy_9 : decode cX12_shareBy 9 = .ok (.imul, 1) := dk_get dk_d05_557 7 rfl
theorem dX12_shareBy_10 : decode cX12_shareBy 10 = .ok (.iconst 1, 1) := dk_get dk_d05_557 8 rfl
theorem dX12_shareBy_11 : decode cX12_shareBy 11 = .ok (.iadd, 1) := dk_get dk_d05_557 9 rfl
theorem dX12_shareBy_12 : decode cX12_shareBy 12 = .ok (.ireturn, 1) := dk_get dk_d05_557 10 rfl
theorem dk_d05_558 : dkc cX12_seats [(0, .aload_n 0, 1), (1, .iconst 0, 1), (2, .putfield 140, 3), (5, .aload_n 0, 1), (6, .iload_n 1, 1), (7, .iconst 1, 1), (8, .bipush 40, 2), (10, .invokevirtual 155, 3), (13, .ifCond .eq 28, 3), (16, .aload_n 0, 1), (17, .iload_n 2, 1), (18, .iconst 0, 1), (19, .iconst 1, 1), (20, .invokevirtual 155, 3), (23, .ifCond .eq 18, 3), (26, .aload_n 0, 1), (27, .iload_n 3, 1), (28, .iconst 0, 1), (29, .aload_n 0, 1), (30, .getfield 450, 3), (33, .iconst 1, 1), (34, .isub, 1), (35, .invokevirtual 155, 3), (38, .ifCond .ne 5, 3), (41, .iconst (-1), 1)] = true := by decide +kernel
theorem dX12_seats_0 : decode cX12_seats 0 = .ok (.aload_n 0, 1) := dk_get dk_d05_558 0 rfl
theorem dX12_seats_1 : decode cX12_seats 1 = .ok (.iconst 0, 1) := dk_get dk_d05_558 1 rfl
theorem dX12_seats_2 : decode cX12_seats 2 = .ok (.putfield 140, 3) := dk_get dk_d05_558 2 rfl
theorem dX12_seats_5 : decode cX12_seats 5 = .ok (.aload_n 0, 1) := dk_get dk_d05_558 3 rfl
theorem dX12_seats_6 : decode cX12_seats 6 = .ok (.iload_n 1, 1) := dk_get dk_d05_558 4 rfl
theorem dX12_seats_7 : decode cX12_seats 7 = .ok (.iconst 1, 1) := dk_get dk_d05_558 5 rfl
theorem dX12_seats_8 : decode cX12_seats 8 = .ok (.bipush 40, 2) := dk_get dk_d05_558 6 rfl
theorem dX12_seats_10 : decode cX12_seats 10 = .ok (.invokevirtual 155, 3) := dk_get dk_d05_558 7 rfl
theorem dX12_seats_13 : decode cX12_seats 13 = .ok (.ifCond .eq 28, 3) := dk_get dk_d05_558 8 rfl
theorem dX12_seats_16 : decode cX12_seats 16 = .ok (.aload_n 0, 1) := dk_get dk_d05_558 9 rfl
theorem dX12_seats_17 : decode cX12_seats 17 = .ok (.iload_n 2, 1) := dk_get dk_d05_558 10 rfl
theorem dX12_seats_18 : decode cX12_seats 18 = .ok (.iconst 0, 1) := dk_get dk_d05_558 11 rfl
theorem dX12_seats_19 : decode cX12_seats 19 = .ok (.iconst 1, 1) := dk_get dk_d05_558 12 rfl
theorem dX12_seats_20 : decode cX12_seats 20 = .ok (.invokevirtual 155, 3) := dk_get dk_d05_558 13 rfl
theorem dX12_seats_23 : decode cX12_seats 23 = .ok (.ifCond .eq 18, 3) := dk_get dk_d05_558 14 rfl
theorem dX12_seats_26 : decode cX12_seats 26 = .ok (.aload_n 0, 1) := dk_get dk_d05_558 15 rfl
theorem dX12_seats_27 : decode cX12_seats 27 = .ok (.iload_n 3, 1) := dk_get dk_d05_558 16 rfl
theorem dX12_seats_28 : decode cX12_seats 28 = .ok (.iconst 0, 1) := dk_get dk_d05_558 17 rfl
theorem dX12_seats_29 : decode cX12_seats 29 = .ok (.aload_n 0, 1) := dk_get dk_d05_558 18 rfl
theorem dX12_seats_30 : decode cX12_seats 30 = .ok (.getfield 450, 3) := dk_get dk_d05_558 19 rfl
theorem dX12_seats_33 : decode cX12_seats 33 = .ok (.iconst 1, 1) := dk_get dk_d05_558 20 rfl
theorem dX12_seats_34 : decode cX12_seats 34 = .ok (.isub, 1) := dk_get dk_d05_558 21 rfl
theorem dX12_seats_35 : decode cX12_seats 35 = .ok (.invokevirtual 155, 3) := dk_get dk_d05_558 22 rfl
theorem dX12_seats_38 : decode cX12_seats 38 = .ok (.ifCond .ne 5, 3) := dk_get dk_d05_558 23 rfl
theorem dX12_seats_41 : decode cX12_seats 41 = .ok (.iconst (-1), 1) := dk_get dk_d05_558 24 rfl
theorem dk_d05_559 : dkc cX12_seats [(42, .ireturn, 1), (43, .iconst 0, 1), (44, .istore 4, 2), (46, .iload 4, 2), (48, .aload_n 0, 1), (49, .getfield 450, 3), (52, .if_icmp .ge 17, 3), (55, .aload_n 0, 1), (56, .getfield 86, 3), (59, .iload 4, 2), (61, .iconst 0, 1), (62, .iastore, 1), (63, .iinc 4 1, 3), (66, .goto (-20), 3), (69, .iconst 0, 1), (70, .istore 4, 2), (72, .iload 4, 2), (74, .iload_n 1, 1), (75, .if_icmp .ge 93, 3), (78, .iconst 0, 1), (79, .istore 5, 2), (81, .iconst 1, 1), (82, .istore 6, 2), (84, .iload 6, 2), (86, .aload_n 0, 1)] = true := by decide +kernel
theorem dX12_seats_42 : decode cX12_seats 42 = .ok (.ireturn, 1) := dk_get dk_d05_559 0 rfl
theorem dX12_seats_43 : decode cX12_seats 43 = .ok (.iconst 0, 1) := dk_get dk_d05_559 1 rfl
theorem dX12_seats_44 : decode cX12_seats 44 = .ok (.istore 4, 2) := dk_get dk_d05_559 2 rfl
theorem dX12_seats_46 : decode cX12_seats 46 = .ok (.iload 4, 2) := dk_get dk_d05_559 3 rfl
theorem dX12_seats_48 : decode cX12_seats 48 = .ok (.aload_n 0, 1) := dk_get dk_d05_559 4 rfl
theorem dX12_seats_49 : decode cX12_seats 49 = .ok (.getfield 450, 3) := dk_get dk_d05_559 5 rfl
theorem dX12_seats_52 : decode cX12_seats 52 = .ok (.if_icmp .ge 17, 3) := dk_get dk_d05_559 6 rfl
theorem dX12_seats_55 : decode cX12_seats 55 = .ok (.aload_n 0, 1) := dk_get dk_d05_559 7 rfl
theorem dX12_seats_56 : decode cX12_seats 56 = .ok (.getfield 86, 3) := dk_get dk_d05_559 8 rfl
theorem dX12_seats_59 : decode cX12_seats 59 = .ok (.iload 4, 2) := dk_get dk_d05_559 9 rfl
theorem dX12_seats_61 : decode cX12_seats 61 = .ok (.iconst 0, 1) := dk_get dk_d05_559 10 rfl
theorem dX12_seats_62 : decode cX12_seats 62 = .ok (.iastore, 1) := dk_get dk_d05_559 11 rfl
theorem dX12_seats_63 : decode cX12_seats 63 = .ok (.iinc 4 1, 3) := dk_get dk_d05_559 12 rfl
theorem dX12_seats_66 : decode cX12_seats 66 = .ok (.goto (-20), 3) := dk_get dk_d05_559 13 rfl
theorem dX12_seats_69 : decode cX12_seats 69 = .ok (.iconst 0, 1) := dk_get dk_d05_559 14 rfl
theorem dX12_seats_70 : decode cX12_seats 70 = .ok (.istore 4, 2) := dk_get dk_d05_559 15 rfl
theorem dX12_seats_72 : decode cX12_seats 72 = .ok (.iload 4, 2) := dk_get dk_d05_559 16 rfl
theorem dX12_seats_74 : decode cX12_seats 74 = .ok (.iload_n 1, 1) := dk_get dk_d05_559 17 rfl
theorem dX12_seats_75 : decode cX12_seats 75 = .ok (.if_icmp .ge 93, 3) := dk_get dk_d05_559 18 rfl
theorem dX12_seats_78 : decode cX12_seats 78 = .ok (.iconst 0, 1) := dk_get dk_d05_559 19 rfl
theorem dX12_seats_79 : decode cX12_seats 79 = .ok (.istore 5, 2) := dk_get dk_d05_559 20 rfl
theorem dX12_seats_81 : decode cX12_seats 81 = .ok (.iconst 1, 1) := dk_get dk_d05_559 21 rfl
theorem dX12_seats_82 : decode cX12_seats 82 = .ok (.istore 6, 2) := dk_get dk_d05_559 22 rfl
theorem dX12_seats_84 : decode cX12_seats 84 = .ok (.iload 6, 2) := dk_get dk_d05_559 23 rfl
theorem dX12_seats_86 : decode cX12_seats 86 = .ok (.aload_n 0, 1) := dk_get dk_d05_559 24 rfl
theorem dk_d05_560 : dkc cX12_seats [(87, .getfield 450, 3), (90, .if_icmp .ge 46, 3), (93, .aload_n 0, 1), (94, .getfield 83, 3), (97, .iload 6, 2), (99, .iaload, 1), (100, .aload_n 0, 1), (101, .iload 5, 2), (103, .iload_n 2, 1), (104, .invokevirtual 453, 3), (107, .imul, 1), (108, .aload_n 0, 1), (109, .getfield 83, 3), (112, .iload 5, 2), (114, .iaload, 1), (115, .aload_n 0, 1), (116, .iload 6, 2), (118, .iload_n 2, 1), (119, .invokevirtual 453, 3), (122, .imul, 1), (123, .if_icmp .le 7, 3), (126, .iload 6, 2), (128, .istore 5, 2), (130, .iinc 6 1, 3), (133, .goto (-49), 3)] = true := by decide +kernel
theorem dX12_seats_87 : decode cX12_seats 87 = .ok (.getfield 450, 3) := dk_get dk_d05_560 0 rfl
theorem dX12_seats_90 : decode cX12_seats 90 = .ok (.if_icmp .ge 46, 3) := dk_get dk_d05_560 1 rfl
theorem dX12_seats_93 : decode cX12_seats 93 = .ok (.aload_n 0, 1) := dk_get dk_d05_560 2 rfl
theorem dX12_seats_94 : decode cX12_seats 94 = .ok (.getfield 83, 3) := dk_get dk_d05_560 3 rfl
theorem dX12_seats_97 : decode cX12_seats 97 = .ok (.iload 6, 2) := dk_get dk_d05_560 4 rfl
theorem dX12_seats_99 : decode cX12_seats 99 = .ok (.iaload, 1) := dk_get dk_d05_560 5 rfl
theorem dX12_seats_100 : decode cX12_seats 100 = .ok (.aload_n 0, 1) := dk_get dk_d05_560 6 rfl
theorem dX12_seats_101 : decode cX12_seats 101 = .ok (.iload 5, 2) := dk_get dk_d05_560 7 rfl
theorem dX12_seats_103 : decode cX12_seats 103 = .ok (.iload_n 2, 1) := dk_get dk_d05_560 8 rfl
theorem dX12_seats_104 : decode cX12_seats 104 = .ok (.invokevirtual 453, 3) := dk_get dk_d05_560 9 rfl
theorem dX12_seats_107 : decode cX12_seats 107 = .ok (.imul, 1) := dk_get dk_d05_560 10 rfl
theorem dX12_seats_108 : decode cX12_seats 108 = .ok (.aload_n 0, 1) := dk_get dk_d05_560 11 rfl
theorem dX12_seats_109 : decode cX12_seats 109 = .ok (.getfield 83, 3) := dk_get dk_d05_560 12 rfl
theorem dX12_seats_112 : decode cX12_seats 112 = .ok (.iload 5, 2) := dk_get dk_d05_560 13 rfl
theorem dX12_seats_114 : decode cX12_seats 114 = .ok (.iaload, 1) := dk_get dk_d05_560 14 rfl
theorem dX12_seats_115 : decode cX12_seats 115 = .ok (.aload_n 0, 1) := dk_get dk_d05_560 15 rfl
theorem dX12_seats_116 : decode cX12_seats 116 = .ok (.iload 6, 2) := dk_get dk_d05_560 16 rfl
theorem dX12_seats_118 : decode cX12_seats 118 = .ok (.iload_n 2, 1) := dk_get dk_d05_560 17 rfl
theorem dX12_seats_119 : decode cX12_seats 119 = .ok (.invokevirtual 453, 3) := dk_get dk_d05_560 18 rfl
theorem dX12_seats_122 : decode cX12_seats 122 = .ok (.imul, 1) := dk_get dk_d05_560 19 rfl
theorem dX12_seats_123 : decode cX12_seats 123 = .ok (.if_icmp .le 7, 3) := dk_get dk_d05_560 20 rfl
theorem dX12_seats_126 : decode cX12_seats 126 = .ok (.iload 6, 2) := dk_get dk_d05_560 21 rfl
theorem dX12_seats_128 : decode cX12_seats 128 = .ok (.istore 5, 2) := dk_get dk_d05_560 22 rfl
theorem dX12_seats_130 : decode cX12_seats 130 = .ok (.iinc 6 1, 3) := dk_get dk_d05_560 23 rfl
theorem dX12_seats_133 : decode cX12_seats 133 = .ok (.goto (-49), 3) := dk_get dk_d05_560 24 rfl
theorem dk_d05_561 : dkc cX12_seats [(136, .aload_n 0, 1), (137, .getfield 83, 3), (140, .iload 5, 2), (142, .iaload, 1), (143, .ifCond .le 19, 3), (146, .aload_n 0, 1), (147, .getfield 86, 3), (150, .iload 5, 2), (152, .aload_n 0, 1), (153, .getfield 86, 3), (156, .iload 5, 2), (158, .iaload, 1), (159, .iconst 1, 1), (160, .iadd, 1), (161, .iastore, 1), (162, .iinc 4 1, 3), (165, .goto (-93), 3), (168, .aload_n 0, 1), (169, .getfield 86, 3), (172, .iload_n 3, 1), (173, .iaload, 1), (174, .ireturn, 1)] = true := by decide +kernel
theorem dX12_seats_136 : decode cX12_seats 136 = .ok (.aload_n 0, 1) := dk_get dk_d05_561 0 rfl
theorem dX12_seats_137 : decode cX12_seats 137 = .ok (.getfield 83, 3) := dk_get dk_d05_561 1 rfl
theorem dX12_seats_140 : decode cX12_seats 140 = .ok (.iload 5, 2) := dk_get dk_d05_561 2 rfl
theorem dX12_seats_142 : decode cX12_seats 142 = .ok (.iaload, 1) := dk_get dk_d05_561 3 rfl
theorem dX12_seats_143 : decode cX12_seats 143 = .ok (.ifCond .le 19, 3) := dk_get dk_d05_561 4 rfl
theorem dX12_seats_146 : decode cX12_seats 146 = .ok (.aload_n 0, 1) := dk_get dk_d05_561 5 rfl
theorem dX12_seats_147 : decode cX12_seats 147 = .ok (.getfield 86, 3) := dk_get dk_d05_561 6 rfl
theorem dX12_seats_150 : decode cX12_seats 150 = .ok (.iload 5, 2) := dk_get dk_d05_561 7 rfl
theorem dX12_seats_152 : decode cX12_seats 152 = .ok (.aload_n 0, 1) := dk_get dk_d05_561 8 rfl
theorem dX12_seats_153 : decode cX12_seats 153 = .ok (.getfield 86, 3) := dk_get dk_d05_561 9 rfl
theorem dX12_seats_156 : decode cX12_seats 156 = .ok (.iload 5, 2) := dk_get dk_d05_561 10 rfl
theorem dX12_seats_158 : decode cX12_seats 158 = .ok (.iaload, 1) := dk_get dk_d05_561 11 rfl
theorem dX12_seats_159 : decode cX12_seats 159 = .ok (.iconst 1, 1) := dk_get dk_d05_561 12 rfl
theorem dX12_seats_160 : decode cX12_seats 160 = .ok (.iadd, 1) := dk_get dk_d05_561 13 rfl
theorem dX12_seats_161 : decode cX12_seats 161 = .ok (.iastore, 1) := dk_get dk_d05_561 14 rfl
theorem dX12_seats_162 : decode cX12_seats 162 = .ok (.iinc 4 1, 3) := dk_get dk_d05_561 15 rfl
theorem dX12_seats_165 : decode cX12_seats 165 = .ok (.goto (-93), 3) := dk_get dk_d05_561 16 rfl
theorem dX12_seats_168 : decode cX12_seats 168 = .ok (.aload_n 0, 1) := dk_get dk_d05_561 17 rfl
theorem dX12_seats_169 : decode cX12_seats 169 = .ok (.getfield 86, 3) := dk_get dk_d05_561 18 rfl
theorem dX12_seats_172 : decode cX12_seats 172 = .ok (.iload_n 3, 1) := dk_get dk_d05_561 19 rfl
theorem dX12_seats_173 : decode cX12_seats 173 = .ok (.iaload, 1) := dk_get dk_d05_561 20 rfl
theorem dX12_seats_174 : decode cX12_seats 174 = .ok (.ireturn, 1) := dk_get dk_d05_561 21 rfl
theorem dk_d05_562 : dkc cX12_house [(0, .aload_n 0, 1), (1, .iconst 0, 1), (2, .putfield 140, 3), (5, .iload_n 1, 1), (6, .iconst (-1), 1), (7, .if_icmp .ne 10, 3), (10, .aload_n 0, 1), (11, .iconst 0, 1), (12, .putfield 456, 3), (15, .iconst 0, 1), (16, .ireturn, 1), (17, .aload_n 0, 1), (18, .iload_n 1, 1), (19, .iconst 0, 1), (20, .iconst 1, 1), (21, .invokevirtual 155, 3), (24, .ifCond .eq 12, 3), (27, .aload_n 0, 1), (28, .getfield 456, 3), (31, .bipush 16, 2), (33, .if_icmp .ne 5, 3), (36, .iconst (-1), 1), (37, .ireturn, 1), (38, .aload_n 0, 1), (39, .getfield 89, 3)] = true := by decide +kernel
theorem dX12_house_0 : decode cX12_house 0 = .ok (.aload_n 0, 1) := dk_get dk_d05_562 0 rfl
theorem dX12_house_1 : decode cX12_house 1 = .ok (.iconst 0, 1) := dk_get dk_d05_562 1 rfl
theorem dX12_house_2 : decode cX12_house 2 = .ok (.putfield 140, 3) := dk_get dk_d05_562 2 rfl
theorem dX12_house_5 : decode cX12_house 5 = .ok (.iload_n 1, 1) := dk_get dk_d05_562 3 rfl
theorem dX12_house_6 : decode cX12_house 6 = .ok (.iconst (-1), 1) := dk_get dk_d05_562 4 rfl
theorem dX12_house_7 : decode cX12_house 7 = .ok (.if_icmp .ne 10, 3) := dk_get dk_d05_562 5 rfl
theorem dX12_house_10 : decode cX12_house 10 = .ok (.aload_n 0, 1) := dk_get dk_d05_562 6 rfl
theorem dX12_house_11 : decode cX12_house 11 = .ok (.iconst 0, 1) := dk_get dk_d05_562 7 rfl
theorem dX12_house_12 : decode cX12_house 12 = .ok (.putfield 456, 3) := dk_get dk_d05_562 8 rfl
theorem dX12_house_15 : decode cX12_house 15 = .ok (.iconst 0, 1) := dk_get dk_d05_562 9 rfl
theorem dX12_house_16 : decode cX12_house 16 = .ok (.ireturn, 1) := dk_get dk_d05_562 10 rfl
theorem dX12_house_17 : decode cX12_house 17 = .ok (.aload_n 0, 1) := dk_get dk_d05_562 11 rfl
theorem dX12_house_18 : decode cX12_house 18 = .ok (.iload_n 1, 1) := dk_get dk_d05_562 12 rfl
theorem dX12_house_19 : decode cX12_house 19 = .ok (.iconst 0, 1) := dk_get dk_d05_562 13 rfl
theorem dX12_house_20 : decode cX12_house 20 = .ok (.iconst 1, 1) := dk_get dk_d05_562 14 rfl
theorem dX12_house_21 : decode cX12_house 21 = .ok (.invokevirtual 155, 3) := dk_get dk_d05_562 15 rfl
theorem dX12_house_24 : decode cX12_house 24 = .ok (.ifCond .eq 12, 3) := dk_get dk_d05_562 16 rfl
theorem dX12_house_27 : decode cX12_house 27 = .ok (.aload_n 0, 1) := dk_get dk_d05_562 17 rfl
theorem dX12_house_28 : decode cX12_house 28 = .ok (.getfield 456, 3) := dk_get dk_d05_562 18 rfl
theorem dX12_house_31 : decode cX12_house 31 = .ok (.bipush 16, 2) := dk_get dk_d05_562 19 rfl
theorem dX12_house_33 : decode cX12_house 33 = .ok (.if_icmp .ne 5, 3) := dk_get dk_d05_562 20 rfl
theorem dX12_house_36 : decode cX12_house 36 = .ok (.iconst (-1), 1) := dk_get dk_d05_562 21 rfl
theorem dX12_house_37 : decode cX12_house 37 = .ok (.ireturn, 1) := dk_get dk_d05_562 22 rfl
theorem dX12_house_38 : decode cX12_house 38 = .ok (.aload_n 0, 1) := dk_get dk_d05_562 23 rfl
theorem dX12_house_39 : decode cX12_house 39 = .ok (.getfield 89, 3) := dk_get dk_d05_562 24 rfl
theorem dk_d05_563 : dkc cX12_house [(42, .aload_n 0, 1), (43, .getfield 456, 3), (46, .iload_n 1, 1), (47, .iastore, 1), (48, .aload_n 0, 1), (49, .aload_n 0, 1), (50, .getfield 456, 3), (53, .iconst 1, 1), (54, .iadd, 1), (55, .putfield 456, 3), (58, .aload_n 0, 1), (59, .getfield 456, 3), (62, .ireturn, 1)] = true := by decide +kernel
theorem dX12_house_42 : decode cX12_house 42 = .ok (.aload_n 0, 1) := dk_get dk_d05_563 0 rfl
theorem dX12_house_43 : decode cX12_house 43 = .ok (.getfield 456, 3) := dk_get dk_d05_563 1 rfl
theorem dX12_house_46 : decode cX12_house 46 = .ok (.iload_n 1, 1) := dk_get dk_d05_563 2 rfl
theorem dX12_house_47 : decode cX12_house 47 = .ok (.iastore, 1) := dk_get dk_d05_563 3 rfl
theorem dX12_house_48 : decode cX12_house 48 = .ok (.aload_n 0, 1) := dk_get dk_d05_563 4 rfl
theorem dX12_house_49 : decode cX12_house 49 = .ok (.aload_n 0, 1) := dk_get dk_d05_563 5 rfl
theorem dX12_house_50 : decode cX12_house 50 = .ok (.getfield 456, 3) := dk_get dk_d05_563 6 rfl
theorem dX12_house_53 : decode cX12_house 53 = .ok (.iconst 1, 1) := dk_get dk_d05_563 7 rfl
theorem dX12_house_54 : decode cX12_house 54 = .ok (.iadd, 1) := dk_get dk_d05_563 8 rfl
theorem dX12_house_55 : decode cX12_house 55 = .ok (.putfield 456, 3) := dk_get dk_d05_563 9 rfl
theorem dX12_house_58 : decode cX12_house 58 = .ok (.aload_n 0, 1) := dk_get dk_d05_563 10 rfl
theorem dX12_house_59 : decode cX12_house 59 = .ok (.getfield 456, 3) := dk_get dk_d05_563 11 rfl
theorem dX12_house_62 : decode cX12_house 62 = .ok (.ireturn, 1) := dk_get dk_d05_563 12 rfl
theorem dk_d05_564 : dkc cX12_findsParishes [(0, .iload_n 1, 1), (1, .ifCond .ne 15, 3), (4, .iload_n 2, 1), (5, .aload_n 0, 1), (6, .getfield 456, 3), (9, .if_icmp .ne 7, 3), (12, .iconst 0, 1), (13, .goto 6, 3), (16, .ldc_w 459, 3), (19, .istore_n 3, 1), (20, .iload_n 1, 1), (21, .ifCond .ne 15, 3), (24, .iload_n 2, 1), (25, .aload_n 0, 1), (26, .getfield 456, 3), (29, .if_icmp .ne 7, 3), (32, .iconst 0, 1), (33, .goto 6, 3), (36, .ldc_w 460, 3), (39, .istore 4, 2), (41, .iconst 0, 1), (42, .istore 5, 2), (44, .iload_n 2, 1), (45, .iconst 1, 1), (46, .iadd, 1)] = true := by decide +kernel
theorem dX12_findsParishes_0 : decode cX12_findsParishes 0 = .ok (.iload_n 1, 1) := dk_get dk_d05_564 0 rfl
theorem dX12_findsParishes_1 : decode cX12_findsParishes 1 = .ok (.ifCond .ne 15, 3) := dk_get dk_d05_564 1 rfl
theorem dX12_findsParishes_4 : decode cX12_findsParishes 4 = .ok (.iload_n 2, 1) := dk_get dk_d05_564 2 rfl
theorem dX12_findsParishes_5 : decode cX12_findsParishes 5 = .ok (.aload_n 0, 1) := dk_get dk_d05_564 3 rfl
theorem dX12_findsParishes_6 : decode cX12_findsParishes 6 = .ok (.getfield 456, 3) := dk_get dk_d05_564 4 rfl
theorem dX12_findsParishes_9 : decode cX12_findsParishes 9 = .ok (.if_icmp .ne 7, 3) := dk_get dk_d05_564 5 rfl
theorem dX12_findsParishes_12 : decode cX12_findsParishes 12 = .ok (.iconst 0, 1) := dk_get dk_d05_564 6 rfl
theorem dX12_findsParishes_13 : decode cX12_findsParishes 13 = .ok (.goto 6, 3) := dk_get dk_d05_564 7 rfl
theorem dX12_findsParishes_16 : decode cX12_findsParishes 16 = .ok (.ldc_w 459, 3) := dk_get dk_d05_564 8 rfl
theorem dX12_findsParishes_19 : decode cX12_findsParishes 19 = .ok (.istore_n 3, 1) := dk_get dk_d05_564 9 rfl
theorem dX12_findsParishes_20 : decode cX12_findsParishes 20 = .ok (.iload_n 1, 1) := dk_get dk_d05_564 10 rfl
theorem dX12_findsParishes_21 : decode cX12_findsParishes 21 = .ok (.ifCond .ne 15, 3) := dk_get dk_d05_564 11 rfl
theorem dX12_findsParishes_24 : decode cX12_findsParishes 24 = .ok (.iload_n 2, 1) := dk_get dk_d05_564 12 rfl
theorem dX12_findsParishes_25 : decode cX12_findsParishes 25 = .ok (.aload_n 0, 1) := dk_get dk_d05_564 13 rfl
theorem dX12_findsParishes_26 : decode cX12_findsParishes 26 = .ok (.getfield 456, 3) := dk_get dk_d05_564 14 rfl
theorem dX12_findsParishes_29 : decode cX12_findsParishes 29 = .ok (.if_icmp .ne 7, 3) := dk_get dk_d05_564 15 rfl
theorem dX12_findsParishes_32 : decode cX12_findsParishes 32 = .ok (.iconst 0, 1) := dk_get dk_d05_564 16 rfl
theorem dX12_findsParishes_33 : decode cX12_findsParishes 33 = .ok (.goto 6, 3) := dk_get dk_d05_564 17 rfl
theorem dX12_findsParishes_36 : decode cX12_findsParishes 36 = .ok (.ldc_w 460, 3) := dk_get dk_d05_564 18 rfl
theorem dX12_findsParishes_39 : decode cX12_findsParishes 39 = .ok (.istore 4, 2) := dk_get dk_d05_564 19 rfl
theorem dX12_findsParishes_41 : decode cX12_findsParishes 41 = .ok (.iconst 0, 1) := dk_get dk_d05_564 20 rfl
theorem dX12_findsParishes_42 : decode cX12_findsParishes 42 = .ok (.istore 5, 2) := dk_get dk_d05_564 21 rfl
theorem dX12_findsParishes_44 : decode cX12_findsParishes 44 = .ok (.iload_n 2, 1) := dk_get dk_d05_564 22 rfl
theorem dX12_findsParishes_45 : decode cX12_findsParishes 45 = .ok (.iconst 1, 1) := dk_get dk_d05_564 23 rfl
theorem dX12_findsParishes_46 : decode cX12_findsParishes 46 = .ok (.iadd, 1) := dk_get dk_d05_564 24 rfl
theorem dk_d05_565 : dkc cX12_findsParishes [(47, .istore 6, 2), (49, .iload 6, 2), (51, .aload_n 0, 1), (52, .getfield 456, 3), (55, .if_icmp .gt 93, 3), (58, .iload_n 1, 1), (59, .ifCond .le 89, 3), (62, .iload 5, 2), (64, .aload_n 0, 1), (65, .getfield 89, 3), (68, .iload 6, 2), (70, .iconst 1, 1), (71, .isub, 1), (72, .iaload, 1), (73, .iadd, 1), (74, .istore 5, 2), (76, .iconst 2, 1), (77, .iload 5, 2), (79, .imul, 1), (80, .iload 6, 2), (82, .iload_n 2, 1), (83, .isub, 1), (84, .if_icmp .le 7, 3), (87, .iconst 1, 1), (88, .goto 4, 3)] = true := by decide +kernel
theorem dX12_findsParishes_47 : decode cX12_findsParishes 47 = .ok (.istore 6, 2) := dk_get dk_d05_565 0 rfl
theorem dX12_findsParishes_49 : decode cX12_findsParishes 49 = .ok (.iload 6, 2) := dk_get dk_d05_565 1 rfl
theorem dX12_findsParishes_51 : decode cX12_findsParishes 51 = .ok (.aload_n 0, 1) := dk_get dk_d05_565 2 rfl
theorem dX12_findsParishes_52 : decode cX12_findsParishes 52 = .ok (.getfield 456, 3) := dk_get dk_d05_565 3 rfl
theorem dX12_findsParishes_55 : decode cX12_findsParishes 55 = .ok (.if_icmp .gt 93, 3) := dk_get dk_d05_565 4 rfl
theorem dX12_findsParishes_58 : decode cX12_findsParishes 58 = .ok (.iload_n 1, 1) := dk_get dk_d05_565 5 rfl
theorem dX12_findsParishes_59 : decode cX12_findsParishes 59 = .ok (.ifCond .le 89, 3) := dk_get dk_d05_565 6 rfl
theorem dX12_findsParishes_62 : decode cX12_findsParishes 62 = .ok (.iload 5, 2) := dk_get dk_d05_565 7 rfl
theorem dX12_findsParishes_64 : decode cX12_findsParishes 64 = .ok (.aload_n 0, 1) := dk_get dk_d05_565 8 rfl
theorem dX12_findsParishes_65 : decode cX12_findsParishes 65 = .ok (.getfield 89, 3) := dk_get dk_d05_565 9 rfl
theorem dX12_findsParishes_68 : decode cX12_findsParishes 68 = .ok (.iload 6, 2) := dk_get dk_d05_565 10 rfl
theorem dX12_findsParishes_70 : decode cX12_findsParishes 70 = .ok (.iconst 1, 1) := dk_get dk_d05_565 11 rfl
theorem dX12_findsParishes_71 : decode cX12_findsParishes 71 = .ok (.isub, 1) := dk_get dk_d05_565 12 rfl
theorem dX12_findsParishes_72 : decode cX12_findsParishes 72 = .ok (.iaload, 1) := dk_get dk_d05_565 13 rfl
theorem dX12_findsParishes_73 : decode cX12_findsParishes 73 = .ok (.iadd, 1) := dk_get dk_d05_565 14 rfl
theorem dX12_findsParishes_74 : decode cX12_findsParishes 74 = .ok (.istore 5, 2) := dk_get dk_d05_565 15 rfl
theorem dX12_findsParishes_76 : decode cX12_findsParishes 76 = .ok (.iconst 2, 1) := dk_get dk_d05_565 16 rfl
theorem dX12_findsParishes_77 : decode cX12_findsParishes 77 = .ok (.iload 5, 2) := dk_get dk_d05_565 17 rfl
theorem dX12_findsParishes_79 : decode cX12_findsParishes 79 = .ok (.imul, 1) := dk_get dk_d05_565 18 rfl
theorem dX12_findsParishes_80 : decode cX12_findsParishes 80 = .ok (.iload 6, 2) := dk_get dk_d05_565 19 rfl
theorem dX12_findsParishes_82 : decode cX12_findsParishes 82 = .ok (.iload_n 2, 1) := dk_get dk_d05_565 20 rfl
theorem dX12_findsParishes_83 : decode cX12_findsParishes 83 = .ok (.isub, 1) := dk_get dk_d05_565 21 rfl
theorem dX12_findsParishes_84 : decode cX12_findsParishes 84 = .ok (.if_icmp .le 7, 3) := dk_get dk_d05_565 22 rfl
theorem dX12_findsParishes_87 : decode cX12_findsParishes 87 = .ok (.iconst 1, 1) := dk_get dk_d05_565 23 rfl
theorem dX12_findsParishes_88 : decode cX12_findsParishes 88 = .ok (.goto 4, 3) := dk_get dk_d05_565 24 rfl
theorem dk_d05_566 : dkc cX12_findsParishes [(91, .iconst 0, 1), (92, .istore 7, 2), (94, .aload_n 0, 1), (95, .iload_n 3, 1), (96, .aload_n 0, 1), (97, .getfield 92, 3), (100, .bipush 17, 2), (102, .iload_n 1, 1), (103, .iconst 1, 1), (104, .isub, 1), (105, .imul, 1), (106, .iload 6, 2), (108, .iadd, 1), (109, .iaload, 1), (110, .iload 7, 2), (112, .iadd, 1), (113, .invokevirtual 421, 3), (116, .istore_n 3, 1), (117, .aload_n 0, 1), (118, .iload 4, 2), (120, .aload_n 0, 1), (121, .getfield 95, 3), (124, .bipush 17, 2), (126, .iload_n 1, 1), (127, .iconst 1, 1)] = true := by decide +kernel
theorem dX12_findsParishes_91 : decode cX12_findsParishes 91 = .ok (.iconst 0, 1) := dk_get dk_d05_566 0 rfl
theorem dX12_findsParishes_92 : decode cX12_findsParishes 92 = .ok (.istore 7, 2) := dk_get dk_d05_566 1 rfl
theorem dX12_findsParishes_94 : decode cX12_findsParishes 94 = .ok (.aload_n 0, 1) := dk_get dk_d05_566 2 rfl
theorem dX12_findsParishes_95 : decode cX12_findsParishes 95 = .ok (.iload_n 3, 1) := dk_get dk_d05_566 3 rfl
theorem dX12_findsParishes_96 : decode cX12_findsParishes 96 = .ok (.aload_n 0, 1) := dk_get dk_d05_566 4 rfl
theorem dX12_findsParishes_97 : decode cX12_findsParishes 97 = .ok (.getfield 92, 3) := dk_get dk_d05_566 5 rfl
theorem dX12_findsParishes_100 : decode cX12_findsParishes 100 = .ok (.bipush 17, 2) := dk_get dk_d05_566 6 rfl
theorem dX12_findsParishes_102 : decode cX12_findsParishes 102 = .ok (.iload_n 1, 1) := dk_get dk_d05_566 7 rfl
theorem dX12_findsParishes_103 : decode cX12_findsParishes 103 = .ok (.iconst 1, 1) := dk_get dk_d05_566 8 rfl
theorem dX12_findsParishes_104 : decode cX12_findsParishes 104 = .ok (.isub, 1) := dk_get dk_d05_566 9 rfl
theorem dX12_findsParishes_105 : decode cX12_findsParishes 105 = .ok (.imul, 1) := dk_get dk_d05_566 10 rfl
theorem dX12_findsParishes_106 : decode cX12_findsParishes 106 = .ok (.iload 6, 2) := dk_get dk_d05_566 11 rfl
theorem dX12_findsParishes_108 : decode cX12_findsParishes 108 = .ok (.iadd, 1) := dk_get dk_d05_566 12 rfl
theorem dX12_findsParishes_109 : decode cX12_findsParishes 109 = .ok (.iaload, 1) := dk_get dk_d05_566 13 rfl
theorem dX12_findsParishes_110 : decode cX12_findsParishes 110 = .ok (.iload 7, 2) := dk_get dk_d05_566 14 rfl
theorem dX12_findsParishes_112 : decode cX12_findsParishes 112 = .ok (.iadd, 1) := dk_get dk_d05_566 15 rfl
theorem dX12_findsParishes_113 : decode cX12_findsParishes 113 = .ok (.invokevirtual 421, 3) := dk_get dk_d05_566 16 rfl
theorem dX12_findsParishes_116 : decode cX12_findsParishes 116 = .ok (.istore_n 3, 1) := dk_get dk_d05_566 17 rfl
theorem dX12_findsParishes_117 : decode cX12_findsParishes 117 = .ok (.aload_n 0, 1) := dk_get dk_d05_566 18 rfl
theorem dX12_findsParishes_118 : decode cX12_findsParishes 118 = .ok (.iload 4, 2) := dk_get dk_d05_566 19 rfl
theorem dX12_findsParishes_120 : decode cX12_findsParishes 120 = .ok (.aload_n 0, 1) := dk_get dk_d05_566 20 rfl
theorem dX12_findsParishes_121 : decode cX12_findsParishes 121 = .ok (.getfield 95, 3) := dk_get dk_d05_566 21 rfl
theorem dX12_findsParishes_124 : decode cX12_findsParishes 124 = .ok (.bipush 17, 2) := dk_get dk_d05_566 22 rfl
theorem dX12_findsParishes_126 : decode cX12_findsParishes 126 = .ok (.iload_n 1, 1) := dk_get dk_d05_566 23 rfl
theorem dX12_findsParishes_127 : decode cX12_findsParishes 127 = .ok (.iconst 1, 1) := dk_get dk_d05_566 24 rfl
theorem dk_d05_567 : dkc cX12_findsParishes [(128, .isub, 1), (129, .imul, 1), (130, .iload 6, 2), (132, .iadd, 1), (133, .iaload, 1), (134, .iload 7, 2), (136, .iadd, 1), (137, .invokevirtual 363, 3), (140, .istore 4, 2), (142, .iinc 6 1, 3), (145, .goto (-96), 3), (148, .aload_n 0, 1), (149, .getfield 92, 3), (152, .bipush 17, 2), (154, .iload_n 1, 1), (155, .imul, 1), (156, .iload_n 2, 1), (157, .iadd, 1), (158, .iload_n 3, 1), (159, .iastore, 1), (160, .aload_n 0, 1), (161, .getfield 95, 3), (164, .bipush 17, 2), (166, .iload_n 1, 1), (167, .imul, 1)] = true := by decide +kernel
theorem dX12_findsParishes_128 : decode cX12_findsParishes 128 = .ok (.isub, 1) := dk_get dk_d05_567 0 rfl
theorem dX12_findsParishes_129 : decode cX12_findsParishes 129 = .ok (.imul, 1) := dk_get dk_d05_567 1 rfl
theorem dX12_findsParishes_130 : decode cX12_findsParishes 130 = .ok (.iload 6, 2) := dk_get dk_d05_567 2 rfl
theorem dX12_findsParishes_132 : decode cX12_findsParishes 132 = .ok (.iadd, 1) := dk_get dk_d05_567 3 rfl
theorem dX12_findsParishes_133 : decode cX12_findsParishes 133 = .ok (.iaload, 1) := dk_get dk_d05_567 4 rfl
theorem dX12_findsParishes_134 : decode cX12_findsParishes 134 = .ok (.iload 7, 2) := dk_get dk_d05_567 5 rfl
theorem dX12_findsParishes_136 : decode cX12_findsParishes 136 = .ok (.iadd, 1) := dk_get dk_d05_567 6 rfl
theorem dX12_findsParishes_137 : decode cX12_findsParishes 137 = .ok (.invokevirtual 363, 3) := dk_get dk_d05_567 7 rfl
theorem dX12_findsParishes_140 : decode cX12_findsParishes 140 = .ok (.istore 4, 2) := dk_get dk_d05_567 8 rfl
theorem dX12_findsParishes_142 : decode cX12_findsParishes 142 = .ok (.iinc 6 1, 3) := dk_get dk_d05_567 9 rfl
theorem dX12_findsParishes_145 : decode cX12_findsParishes 145 = .ok (.goto (-96), 3) := dk_get dk_d05_567 10 rfl
theorem dX12_findsParishes_148 : decode cX12_findsParishes 148 = .ok (.aload_n 0, 1) := dk_get dk_d05_567 11 rfl
theorem dX12_findsParishes_149 : decode cX12_findsParishes 149 = .ok (.getfield 92, 3) := dk_get dk_d05_567 12 rfl
theorem dX12_findsParishes_152 : decode cX12_findsParishes 152 = .ok (.bipush 17, 2) := dk_get dk_d05_567 13 rfl
theorem dX12_findsParishes_154 : decode cX12_findsParishes 154 = .ok (.iload_n 1, 1) := dk_get dk_d05_567 14 rfl
theorem dX12_findsParishes_155 : decode cX12_findsParishes 155 = .ok (.imul, 1) := dk_get dk_d05_567 15 rfl
theorem dX12_findsParishes_156 : decode cX12_findsParishes 156 = .ok (.iload_n 2, 1) := dk_get dk_d05_567 16 rfl
theorem dX12_findsParishes_157 : decode cX12_findsParishes 157 = .ok (.iadd, 1) := dk_get dk_d05_567 17 rfl
theorem dX12_findsParishes_158 : decode cX12_findsParishes 158 = .ok (.iload_n 3, 1) := dk_get dk_d05_567 18 rfl
theorem dX12_findsParishes_159 : decode cX12_findsParishes 159 = .ok (.iastore, 1) := dk_get dk_d05_567 19 rfl
theorem dX12_findsParishes_160 : decode cX12_findsParishes 160 = .ok (.aload_n 0, 1) := dk_get dk_d05_567 20 rfl
theorem dX12_findsParishes_161 : decode cX12_findsParishes 161 = .ok (.getfield 95, 3) := dk_get dk_d05_567 21 rfl
theorem dX12_findsParishes_164 : decode cX12_findsParishes 164 = .ok (.bipush 17, 2) := dk_get dk_d05_567 22 rfl
theorem dX12_findsParishes_166 : decode cX12_findsParishes 166 = .ok (.iload_n 1, 1) := dk_get dk_d05_567 23 rfl
theorem dX12_findsParishes_167 : decode cX12_findsParishes 167 = .ok (.imul, 1) := dk_get dk_d05_567 24 rfl
theorem dk_d05_568 : dkc cX12_findsParishes [(168, .iload_n 2, 1), (169, .iadd, 1), (170, .iload 4, 2), (172, .iastore, 1), (173, .return_, 1)] = true := by decide +kernel
theorem dX12_findsParishes_168 : decode cX12_findsParishes 168 = .ok (.iload_n 2, 1) := dk_get dk_d05_568 0 rfl
theorem dX12_findsParishes_169 : decode cX12_findsParishes 169 = .ok (.iadd, 1) := dk_get dk_d05_568 1 rfl
theorem dX12_findsParishes_170 : decode cX12_findsParishes 170 = .ok (.iload 4, 2) := dk_get dk_d05_568 2 rfl
theorem dX12_findsParishes_172 : decode cX12_findsParishes 172 = .ok (.iastore, 1) := dk_get dk_d05_568 3 rfl
theorem dX12_findsParishes_173 : decode cX12_findsParishes 173 = .ok (.return_, 1) := dk_get dk_d05_568 4 rfl
theorem dk_d05_569 : dkc cX12_parishes [(0, .aload_n 0, 1), (1, .iconst 0, 1), (2, .putfield 140, 3), (5, .aload_n 0, 1), (6, .iload_n 1, 1), (7, .iconst 1, 1), (8, .bipush 8, 2), (10, .invokevirtual 155, 3), (13, .ifCond .eq 21, 3), (16, .iload_n 1, 1), (17, .aload_n 0, 1), (18, .getfield 456, 3), (21, .if_icmp .gt 13, 3), (24, .aload_n 0, 1), (25, .iload_n 2, 1), (26, .iconst 0, 1), (27, .iconst 1, 1), (28, .invokevirtual 155, 3), (31, .ifCond .ne 5, 3), (34, .iconst (-1), 1), (35, .ireturn, 1), (36, .iconst 0, 1), (37, .istore_n 3, 1), (38, .iload_n 3, 1), (39, .iload_n 1, 1)] = true := by decide +kernel
theorem dX12_parishes_0 : decode cX12_parishes 0 = .ok (.aload_n 0, 1) := dk_get dk_d05_569 0 rfl
theorem dX12_parishes_1 : decode cX12_parishes 1 = .ok (.iconst 0, 1) := dk_get dk_d05_569 1 rfl
theorem dX12_parishes_2 : decode cX12_parishes 2 = .ok (.putfield 140, 3) := dk_get dk_d05_569 2 rfl
theorem dX12_parishes_5 : decode cX12_parishes 5 = .ok (.aload_n 0, 1) := dk_get dk_d05_569 3 rfl
theorem dX12_parishes_6 : decode cX12_parishes 6 = .ok (.iload_n 1, 1) := dk_get dk_d05_569 4 rfl
theorem dX12_parishes_7 : decode cX12_parishes 7 = .ok (.iconst 1, 1) := dk_get dk_d05_569 5 rfl
theorem dX12_parishes_8 : decode cX12_parishes 8 = .ok (.bipush 8, 2) := dk_get dk_d05_569 6 rfl
theorem dX12_parishes_10 : decode cX12_parishes 10 = .ok (.invokevirtual 155, 3) := dk_get dk_d05_569 7 rfl
theorem dX12_parishes_13 : decode cX12_parishes 13 = .ok (.ifCond .eq 21, 3) := dk_get dk_d05_569 8 rfl
theorem dX12_parishes_16 : decode cX12_parishes 16 = .ok (.iload_n 1, 1) := dk_get dk_d05_569 9 rfl
theorem dX12_parishes_17 : decode cX12_parishes 17 = .ok (.aload_n 0, 1) := dk_get dk_d05_569 10 rfl
theorem dX12_parishes_18 : decode cX12_parishes 18 = .ok (.getfield 456, 3) := dk_get dk_d05_569 11 rfl
theorem dX12_parishes_21 : decode cX12_parishes 21 = .ok (.if_icmp .gt 13, 3) := dk_get dk_d05_569 12 rfl
theorem dX12_parishes_24 : decode cX12_parishes 24 = .ok (.aload_n 0, 1) := dk_get dk_d05_569 13 rfl
theorem dX12_parishes_25 : decode cX12_parishes 25 = .ok (.iload_n 2, 1) := dk_get dk_d05_569 14 rfl
theorem dX12_parishes_26 : decode cX12_parishes 26 = .ok (.iconst 0, 1) := dk_get dk_d05_569 15 rfl
theorem dX12_parishes_27 : decode cX12_parishes 27 = .ok (.iconst 1, 1) := dk_get dk_d05_569 16 rfl
theorem dX12_parishes_28 : decode cX12_parishes 28 = .ok (.invokevirtual 155, 3) := dk_get dk_d05_569 17 rfl
theorem dX12_parishes_31 : decode cX12_parishes 31 = .ok (.ifCond .ne 5, 3) := dk_get dk_d05_569 18 rfl
theorem dX12_parishes_34 : decode cX12_parishes 34 = .ok (.iconst (-1), 1) := dk_get dk_d05_569 19 rfl
theorem dX12_parishes_35 : decode cX12_parishes 35 = .ok (.ireturn, 1) := dk_get dk_d05_569 20 rfl
theorem dX12_parishes_36 : decode cX12_parishes 36 = .ok (.iconst 0, 1) := dk_get dk_d05_569 21 rfl
theorem dX12_parishes_37 : decode cX12_parishes 37 = .ok (.istore_n 3, 1) := dk_get dk_d05_569 22 rfl
theorem dX12_parishes_38 : decode cX12_parishes 38 = .ok (.iload_n 3, 1) := dk_get dk_d05_569 23 rfl
theorem dX12_parishes_39 : decode cX12_parishes 39 = .ok (.iload_n 1, 1) := dk_get dk_d05_569 24 rfl
theorem dk_d05_570 : dkc cX12_parishes [(40, .if_icmp .gt 34, 3), (43, .iconst 0, 1), (44, .istore 4, 2), (46, .iload 4, 2), (48, .aload_n 0, 1), (49, .getfield 456, 3), (52, .if_icmp .gt 16, 3), (55, .aload_n 0, 1), (56, .iload_n 3, 1), (57, .iload 4, 2), (59, .invokevirtual 461, 3), (62, .iinc 4 1, 3), (65, .goto (-19), 3), (68, .iinc 3 1, 3), (71, .goto (-33), 3), (74, .iload_n 2, 1), (75, .ifCond .ne 15, 3), (78, .aload_n 0, 1), (79, .getfield 92, 3), (82, .bipush 17, 2), (84, .iload_n 1, 1), (85, .imul, 1), (86, .iaload, 1), (87, .goto 12, 3), (90, .aload_n 0, 1)] = true := by decide +kernel
theorem dX12_parishes_40 : decode cX12_parishes 40 = .ok (.if_icmp .gt 34, 3) := dk_get dk_d05_570 0 rfl
theorem dX12_parishes_43 : decode cX12_parishes 43 = .ok (.iconst 0, 1) := dk_get dk_d05_570 1 rfl
theorem dX12_parishes_44 : decode cX12_parishes 44 = .ok (.istore 4, 2) := dk_get dk_d05_570 2 rfl
theorem dX12_parishes_46 : decode cX12_parishes 46 = .ok (.iload 4, 2) := dk_get dk_d05_570 3 rfl
theorem dX12_parishes_48 : decode cX12_parishes 48 = .ok (.aload_n 0, 1) := dk_get dk_d05_570 4 rfl
theorem dX12_parishes_49 : decode cX12_parishes 49 = .ok (.getfield 456, 3) := dk_get dk_d05_570 5 rfl
theorem dX12_parishes_52 : decode cX12_parishes 52 = .ok (.if_icmp .gt 16, 3) := dk_get dk_d05_570 6 rfl
theorem dX12_parishes_55 : decode cX12_parishes 55 = .ok (.aload_n 0, 1) := dk_get dk_d05_570 7 rfl
theorem dX12_parishes_56 : decode cX12_parishes 56 = .ok (.iload_n 3, 1) := dk_get dk_d05_570 8 rfl
theorem dX12_parishes_57 : decode cX12_parishes 57 = .ok (.iload 4, 2) := dk_get dk_d05_570 9 rfl
theorem dX12_parishes_59 : decode cX12_parishes 59 = .ok (.invokevirtual 461, 3) := dk_get dk_d05_570 10 rfl
theorem dX12_parishes_62 : decode cX12_parishes 62 = .ok (.iinc 4 1, 3) := dk_get dk_d05_570 11 rfl
theorem dX12_parishes_65 : decode cX12_parishes 65 = .ok (.goto (-19), 3) := dk_get dk_d05_570 12 rfl
theorem dX12_parishes_68 : decode cX12_parishes 68 = .ok (.iinc 3 1, 3) := dk_get dk_d05_570 13 rfl
theorem dX12_parishes_71 : decode cX12_parishes 71 = .ok (.goto (-33), 3) := dk_get dk_d05_570 14 rfl
theorem dX12_parishes_74 : decode cX12_parishes 74 = .ok (.iload_n 2, 1) := dk_get dk_d05_570 15 rfl
theorem dX12_parishes_75 : decode cX12_parishes 75 = .ok (.ifCond .ne 15, 3) := dk_get dk_d05_570 16 rfl
theorem dX12_parishes_78 : decode cX12_parishes 78 = .ok (.aload_n 0, 1) := dk_get dk_d05_570 17 rfl
theorem dX12_parishes_79 : decode cX12_parishes 79 = .ok (.getfield 92, 3) := dk_get dk_d05_570 18 rfl
theorem dX12_parishes_82 : decode cX12_parishes 82 = .ok (.bipush 17, 2) := dk_get dk_d05_570 19 rfl
theorem dX12_parishes_84 : decode cX12_parishes 84 = .ok (.iload_n 1, 1) := dk_get dk_d05_570 20 rfl
theorem dX12_parishes_85 : decode cX12_parishes 85 = .ok (.imul, 1) := dk_get dk_d05_570 21 rfl
theorem dX12_parishes_86 : decode cX12_parishes 86 = .ok (.iaload, 1) := dk_get dk_d05_570 22 rfl
theorem dX12_parishes_87 : decode cX12_parishes 87 = .ok (.goto 12, 3) := dk_get dk_d05_570 23 rfl
theorem dX12_parishes_90 : decode cX12_parishes 90 = .ok (.aload_n 0, 1) := dk_get dk_d05_570 24 rfl
theorem dk_d05_571 : dkc cX12_parishes [(91, .getfield 95, 3), (94, .bipush 17, 2), (96, .iload_n 1, 1), (97, .imul, 1), (98, .iaload, 1), (99, .ireturn, 1)] = true := by decide +kernel
theorem dX12_parishes_91 : decode cX12_parishes 91 = .ok (.getfield 95, 3) := dk_get dk_d05_571 0 rfl
theorem dX12_parishes_94 : decode cX12_parishes 94 = .ok (.bipush 17, 2) := dk_get dk_d05_571 1 rfl
theorem dX12_parishes_96 : decode cX12_parishes 96 = .ok (.iload_n 1, 1) := dk_get dk_d05_571 2 rfl
theorem dX12_parishes_97 : decode cX12_parishes 97 = .ok (.imul, 1) := dk_get dk_d05_571 3 rfl
theorem dX12_parishes_98 : decode cX12_parishes 98 = .ok (.iaload, 1) := dk_get dk_d05_571 4 rfl
theorem dX12_parishes_99 : decode cX12_parishes 99 = .ok (.ireturn, 1) := dk_get dk_d05_571 5 rfl
theorem dk_d05_572 : dkc cX12_wish [(0, .aload_n 0, 1), (1, .iconst 0, 1), (2, .putfield 140, 3), (5, .iload_n 1, 1), (6, .iconst (-1), 1), (7, .if_icmp .ne 10, 3), (10, .aload_n 0, 1), (11, .iconst 0, 1), (12, .putfield 464, 3), (15, .iconst 0, 1), (16, .ireturn, 1), (17, .aload_n 0, 1), (18, .iload_n 1, 1), (19, .iconst 0, 1), (20, .bipush 99, 2), (22, .invokevirtual 155, 3), (25, .ifCond .eq 12, 3), (28, .aload_n 0, 1), (29, .getfield 464, 3), (32, .bipush 15, 2), (34, .if_icmp .ne 5, 3), (37, .iconst (-1), 1), (38, .ireturn, 1), (39, .aload_n 0, 1), (40, .getfield 98, 3)] = true := by decide +kernel
theorem dX12_wish_0 : decode cX12_wish 0 = .ok (.aload_n 0, 1) := dk_get dk_d05_572 0 rfl
theorem dX12_wish_1 : decode cX12_wish 1 = .ok (.iconst 0, 1) := dk_get dk_d05_572 1 rfl
theorem dX12_wish_2 : decode cX12_wish 2 = .ok (.putfield 140, 3) := dk_get dk_d05_572 2 rfl
theorem dX12_wish_5 : decode cX12_wish 5 = .ok (.iload_n 1, 1) := dk_get dk_d05_572 3 rfl
theorem dX12_wish_6 : decode cX12_wish 6 = .ok (.iconst (-1), 1) := dk_get dk_d05_572 4 rfl
theorem dX12_wish_7 : decode cX12_wish 7 = .ok (.if_icmp .ne 10, 3) := dk_get dk_d05_572 5 rfl
theorem dX12_wish_10 : decode cX12_wish 10 = .ok (.aload_n 0, 1) := dk_get dk_d05_572 6 rfl
theorem dX12_wish_11 : decode cX12_wish 11 = .ok (.iconst 0, 1) := dk_get dk_d05_572 7 rfl
theorem dX12_wish_12 : decode cX12_wish 12 = .ok (.putfield 464, 3) := dk_get dk_d05_572 8 rfl
theorem dX12_wish_15 : decode cX12_wish 15 = .ok (.iconst 0, 1) := dk_get dk_d05_572 9 rfl
theorem dX12_wish_16 : decode cX12_wish 16 = .ok (.ireturn, 1) := dk_get dk_d05_572 10 rfl
theorem dX12_wish_17 : decode cX12_wish 17 = .ok (.aload_n 0, 1) := dk_get dk_d05_572 11 rfl
theorem dX12_wish_18 : decode cX12_wish 18 = .ok (.iload_n 1, 1) := dk_get dk_d05_572 12 rfl
theorem dX12_wish_19 : decode cX12_wish 19 = .ok (.iconst 0, 1) := dk_get dk_d05_572 13 rfl
theorem dX12_wish_20 : decode cX12_wish 20 = .ok (.bipush 99, 2) := dk_get dk_d05_572 14 rfl
theorem dX12_wish_22 : decode cX12_wish 22 = .ok (.invokevirtual 155, 3) := dk_get dk_d05_572 15 rfl
theorem dX12_wish_25 : decode cX12_wish 25 = .ok (.ifCond .eq 12, 3) := dk_get dk_d05_572 16 rfl
theorem dX12_wish_28 : decode cX12_wish 28 = .ok (.aload_n 0, 1) := dk_get dk_d05_572 17 rfl
theorem dX12_wish_29 : decode cX12_wish 29 = .ok (.getfield 464, 3) := dk_get dk_d05_572 18 rfl
theorem dX12_wish_32 : decode cX12_wish 32 = .ok (.bipush 15, 2) := dk_get dk_d05_572 19 rfl
theorem dX12_wish_34 : decode cX12_wish 34 = .ok (.if_icmp .ne 5, 3) := dk_get dk_d05_572 20 rfl
theorem dX12_wish_37 : decode cX12_wish 37 = .ok (.iconst (-1), 1) := dk_get dk_d05_572 21 rfl
theorem dX12_wish_38 : decode cX12_wish 38 = .ok (.ireturn, 1) := dk_get dk_d05_572 22 rfl
theorem dX12_wish_39 : decode cX12_wish 39 = .ok (.aload_n 0, 1) := dk_get dk_d05_572 23 rfl
theorem dX12_wish_40 : decode cX12_wish 40 = .ok (.getfield 98, 3) := dk_get dk_d05_572 24 rfl
theorem dk_d05_573 : dkc cX12_wish [(43, .aload_n 0, 1), (44, .getfield 464, 3), (47, .iload_n 1, 1), (48, .iastore, 1), (49, .aload_n 0, 1), (50, .aload_n 0, 1), (51, .getfield 464, 3), (54, .iconst 1, 1), (55, .iadd, 1), (56, .putfield 464, 3), (59, .aload_n 0, 1), (60, .getfield 464, 3), (63, .ireturn, 1)] = true := by decide +kernel
theorem dX12_wish_43 : decode cX12_wish 43 = .ok (.aload_n 0, 1) := dk_get dk_d05_573 0 rfl
theorem dX12_wish_44 : decode cX12_wish 44 = .ok (.getfield 464, 3) := dk_get dk_d05_573 1 rfl
theorem dX12_wish_47 : decode cX12_wish 47 = .ok (.iload_n 1, 1) := dk_get dk_d05_573 2 rfl
theorem dX12_wish_48 : decode cX12_wish 48 = .ok (.iastore, 1) := dk_get dk_d05_573 3 rfl
theorem dX12_wish_49 : decode cX12_wish 49 = .ok (.aload_n 0, 1) := dk_get dk_d05_573 4 rfl
theorem dX12_wish_50 : decode cX12_wish 50 = .ok (.aload_n 0, 1) := dk_get dk_d05_573 5 rfl
theorem dX12_wish_51 : decode cX12_wish 51 = .ok (.getfield 464, 3) := dk_get dk_d05_573 6 rfl
theorem dX12_wish_54 : decode cX12_wish 54 = .ok (.iconst 1, 1) := dk_get dk_d05_573 7 rfl
theorem dX12_wish_55 : decode cX12_wish 55 = .ok (.iadd, 1) := dk_get dk_d05_573 8 rfl
theorem dX12_wish_56 : decode cX12_wish 56 = .ok (.putfield 464, 3) := dk_get dk_d05_573 9 rfl
theorem dX12_wish_59 : decode cX12_wish 59 = .ok (.aload_n 0, 1) := dk_get dk_d05_573 10 rfl
theorem dX12_wish_60 : decode cX12_wish 60 = .ok (.getfield 464, 3) := dk_get dk_d05_573 11 rfl
theorem dX12_wish_63 : decode cX12_wish 63 = .ok (.ireturn, 1) := dk_get dk_d05_573 12 rfl
theorem dk_d05_574 : dkc cX12_name [(0, .aload_n 0, 1), (1, .iconst 0, 1), (2, .putfield 140, 3), (5, .iload_n 1, 1), (6, .iconst (-1), 1), (7, .if_icmp .ne 10, 3), (10, .aload_n 0, 1), (11, .iconst 0, 1), (12, .putfield 467, 3), (15, .iconst 0, 1), (16, .ireturn, 1), (17, .aload_n 0, 1), (18, .iload_n 1, 1), (19, .iconst 0, 1), (20, .bipush 9, 2), (22, .invokevirtual 155, 3), (25, .ifCond .eq 12, 3), (28, .aload_n 0, 1), (29, .getfield 467, 3), (32, .bipush 15, 2), (34, .if_icmp .ne 5, 3), (37, .iconst (-1), 1), (38, .ireturn, 1), (39, .aload_n 0, 1), (40, .getfield 101, 3)] = true := by decide +kernel
theorem dX12_name_0 : decode cX12_name 0 = .ok (.aload_n 0, 1) := dk_get dk_d05_574 0 rfl
theorem dX12_name_1 : decode cX12_name 1 = .ok (.iconst 0, 1) := dk_get dk_d05_574 1 rfl
theorem dX12_name_2 : decode cX12_name 2 = .ok (.putfield 140, 3) := dk_get dk_d05_574 2 rfl
theorem dX12_name_5 : decode cX12_name 5 = .ok (.iload_n 1, 1) := dk_get dk_d05_574 3 rfl
theorem dX12_name_6 : decode cX12_name 6 = .ok (.iconst (-1), 1) := dk_get dk_d05_574 4 rfl
theorem dX12_name_7 : decode cX12_name 7 = .ok (.if_icmp .ne 10, 3) := dk_get dk_d05_574 5 rfl
theorem dX12_name_10 : decode cX12_name 10 = .ok (.aload_n 0, 1) := dk_get dk_d05_574 6 rfl
theorem dX12_name_11 : decode cX12_name 11 = .ok (.iconst 0, 1) := dk_get dk_d05_574 7 rfl
theorem dX12_name_12 : decode cX12_name 12 = .ok (.putfield 467, 3) := dk_get dk_d05_574 8 rfl
theorem dX12_name_15 : decode cX12_name 15 = .ok (.iconst 0, 1) := dk_get dk_d05_574 9 rfl
theorem dX12_name_16 : decode cX12_name 16 = .ok (.ireturn, 1) := dk_get dk_d05_574 10 rfl
theorem dX12_name_17 : decode cX12_name 17 = .ok (.aload_n 0, 1) := dk_get dk_d05_574 11 rfl
theorem dX12_name_18 : decode cX12_name 18 = .ok (.iload_n 1, 1) := dk_get dk_d05_574 12 rfl
theorem dX12_name_19 : decode cX12_name 19 = .ok (.iconst 0, 1) := dk_get dk_d05_574 13 rfl
theorem dX12_name_20 : decode cX12_name 20 = .ok (.bipush 9, 2) := dk_get dk_d05_574 14 rfl
theorem dX12_name_22 : decode cX12_name 22 = .ok (.invokevirtual 155, 3) := dk_get dk_d05_574 15 rfl
theorem dX12_name_25 : decode cX12_name 25 = .ok (.ifCond .eq 12, 3) := dk_get dk_d05_574 16 rfl
theorem dX12_name_28 : decode cX12_name 28 = .ok (.aload_n 0, 1) := dk_get dk_d05_574 17 rfl
theorem dX12_name_29 : decode cX12_name 29 = .ok (.getfield 467, 3) := dk_get dk_d05_574 18 rfl
theorem dX12_name_32 : decode cX12_name 32 = .ok (.bipush 15, 2) := dk_get dk_d05_574 19 rfl
theorem dX12_name_34 : decode cX12_name 34 = .ok (.if_icmp .ne 5, 3) := dk_get dk_d05_574 20 rfl
theorem dX12_name_37 : decode cX12_name 37 = .ok (.iconst (-1), 1) := dk_get dk_d05_574 21 rfl
theorem dX12_name_38 : decode cX12_name 38 = .ok (.ireturn, 1) := dk_get dk_d05_574 22 rfl
theorem dX12_name_39 : decode cX12_name 39 = .ok (.aload_n 0, 1) := dk_get dk_d05_574 23 rfl
theorem dX12_name_40 : decode cX12_name 40 = .ok (.getfield 101, 3) := dk_get dk_d05_574 24 rfl
theorem dk_d05_575 : dkc cX12_name [(43, .aload_n 0, 1), (44, .getfield 467, 3), (47, .iload_n 1, 1), (48, .iastore, 1), (49, .aload_n 0, 1), (50, .aload_n 0, 1), (51, .getfield 467, 3), (54, .iconst 1, 1), (55, .iadd, 1), (56, .putfield 467, 3), (59, .aload_n 0, 1), (60, .getfield 467, 3), (63, .ireturn, 1)] = true := by decide +kernel
theorem dX12_name_43 : decode cX12_name 43 = .ok (.aload_n 0, 1) := dk_get dk_d05_575 0 rfl
theorem dX12_name_44 : decode cX12_name 44 = .ok (.getfield 467, 3) := dk_get dk_d05_575 1 rfl
theorem dX12_name_47 : decode cX12_name 47 = .ok (.iload_n 1, 1) := dk_get dk_d05_575 2 rfl
theorem dX12_name_48 : decode cX12_name 48 = .ok (.iastore, 1) := dk_get dk_d05_575 3 rfl
theorem dX12_name_49 : decode cX12_name 49 = .ok (.aload_n 0, 1) := dk_get dk_d05_575 4 rfl
theorem dX12_name_50 : decode cX12_name 50 = .ok (.aload_n 0, 1) := dk_get dk_d05_575 5 rfl
theorem dX12_name_51 : decode cX12_name 51 = .ok (.getfield 467, 3) := dk_get dk_d05_575 6 rfl
theorem dX12_name_54 : decode cX12_name 54 = .ok (.iconst 1, 1) := dk_get dk_d05_575 7 rfl
theorem dX12_name_55 : decode cX12_name 55 = .ok (.iadd, 1) := dk_get dk_d05_575 8 rfl
theorem dX12_name_56 : decode cX12_name 56 = .ok (.putfield 467, 3) := dk_get dk_d05_575 9 rfl
theorem dX12_name_59 : decode cX12_name 59 = .ok (.aload_n 0, 1) := dk_get dk_d05_575 10 rfl
theorem dX12_name_60 : decode cX12_name 60 = .ok (.getfield 467, 3) := dk_get dk_d05_575 11 rfl
theorem dX12_name_63 : decode cX12_name 63 = .ok (.ireturn, 1) := dk_get dk_d05_575 12 rfl
theorem dk_d05_576 : dkc cX12_middleOf [(0, .aload_n 0, 1), (1, .getfield 464, 3), (4, .ifCond .ne 5, 3), (7, .iconst (-1), 1), (8, .ireturn, 1), (9, .iconst 0, 1), (10, .istore_n 1, 1), (11, .iconst 0, 1), (12, .istore_n 2, 1), (13, .iconst 0, 1), (14, .istore_n 3, 1), (15, .iload_n 3, 1), (16, .aload_n 0, 1), (17, .getfield 464, 3), (20, .if_icmp .ge 23, 3), (23, .aload_n 0, 1), (24, .getfield 98, 3), (27, .iload_n 3, 1), (28, .iaload, 1), (29, .iload_n 1, 1), (30, .if_icmp .gt 7, 3), (33, .iload_n 2, 1), (34, .iconst 1, 1), (35, .iadd, 1), (36, .istore_n 2, 1)] = true := by decide +kernel
theorem dX12_middleOf_0 : decode cX12_middleOf 0 = .ok (.aload_n 0, 1) := dk_get dk_d05_576 0 rfl
theorem dX12_middleOf_1 : decode cX12_middleOf 1 = .ok (.getfield 464, 3) := dk_get dk_d05_576 1 rfl
theorem dX12_middleOf_4 : decode cX12_middleOf 4 = .ok (.ifCond .ne 5, 3) := dk_get dk_d05_576 2 rfl
theorem dX12_middleOf_7 : decode cX12_middleOf 7 = .ok (.iconst (-1), 1) := dk_get dk_d05_576 3 rfl
theorem dX12_middleOf_8 : decode cX12_middleOf 8 = .ok (.ireturn, 1) := dk_get dk_d05_576 4 rfl
theorem dX12_middleOf_9 : decode cX12_middleOf 9 = .ok (.iconst 0, 1) := dk_get dk_d05_576 5 rfl
theorem dX12_middleOf_10 : decode cX12_middleOf 10 = .ok (.istore_n 1, 1) := dk_get dk_d05_576 6 rfl
theorem dX12_middleOf_11 : decode cX12_middleOf 11 = .ok (.iconst 0, 1) := dk_get dk_d05_576 7 rfl
theorem dX12_middleOf_12 : decode cX12_middleOf 12 = .ok (.istore_n 2, 1) := dk_get dk_d05_576 8 rfl
theorem dX12_middleOf_13 : decode cX12_middleOf 13 = .ok (.iconst 0, 1) := dk_get dk_d05_576 9 rfl
theorem dX12_middleOf_14 : decode cX12_middleOf 14 = .ok (.istore_n 3, 1) := dk_get dk_d05_576 10 rfl
theorem dX12_middleOf_15 : decode cX12_middleOf 15 = .ok (.iload_n 3, 1) := dk_get dk_d05_576 11 rfl
theorem dX12_middleOf_16 : decode cX12_middleOf 16 = .ok (.aload_n 0, 1) := dk_get dk_d05_576 12 rfl
theorem dX12_middleOf_17 : decode cX12_middleOf 17 = .ok (.getfield 464, 3) := dk_get dk_d05_576 13 rfl
theorem dX12_middleOf_20 : decode cX12_middleOf 20 = .ok (.if_icmp .ge 23, 3) := dk_get dk_d05_576 14 rfl
theorem dX12_middleOf_23 : decode cX12_middleOf 23 = .ok (.aload_n 0, 1) := dk_get dk_d05_576 15 rfl
theorem dX12_middleOf_24 : decode cX12_middleOf 24 = .ok (.getfield 98, 3) := dk_get dk_d05_576 16 rfl
theorem dX12_middleOf_27 : decode cX12_middleOf 27 = .ok (.iload_n 3, 1) := dk_get dk_d05_576 17 rfl
theorem dX12_middleOf_28 : decode cX12_middleOf 28 = .ok (.iaload, 1) := dk_get dk_d05_576 18 rfl
theorem dX12_middleOf_29 : decode cX12_middleOf 29 = .ok (.iload_n 1, 1) := dk_get dk_d05_576 19 rfl
theorem dX12_middleOf_30 : decode cX12_middleOf 30 = .ok (.if_icmp .gt 7, 3) := dk_get dk_d05_576 20 rfl
theorem dX12_middleOf_33 : decode cX12_middleOf 33 = .ok (.iload_n 2, 1) := dk_get dk_d05_576 21 rfl
theorem dX12_middleOf_34 : decode cX12_middleOf 34 = .ok (.iconst 1, 1) := dk_get dk_d05_576 22 rfl
theorem dX12_middleOf_35 : decode cX12_middleOf 35 = .ok (.iadd, 1) := dk_get dk_d05_576 23 rfl
theorem dX12_middleOf_36 : decode cX12_middleOf 36 = .ok (.istore_n 2, 1) := dk_get dk_d05_576 24 rfl
theorem dk_d05_577 : dkc cX12_middleOf [(37, .iinc 3 1, 3), (40, .goto (-25), 3), (43, .iconst 2, 1), (44, .iload_n 2, 1), (45, .imul, 1), (46, .aload_n 0, 1), (47, .getfield 464, 3), (50, .if_icmp .lt 5, 3), (53, .iload_n 1, 1), (54, .ireturn, 1), (55, .iload_n 1, 1), (56, .iconst 1, 1), (57, .iadd, 1), (58, .istore_n 1, 1), (59, .goto (-48), 3)] = true := by decide +kernel
theorem dX12_middleOf_37 : decode cX12_middleOf 37 = .ok (.iinc 3 1, 3) := dk_get dk_d05_577 0 rfl
theorem dX12_middleOf_40 : decode cX12_middleOf 40 = .ok (.goto (-25), 3) := dk_get dk_d05_577 1 rfl
theorem dX12_middleOf_43 : decode cX12_middleOf 43 = .ok (.iconst 2, 1) := dk_get dk_d05_577 2 rfl
theorem dX12_middleOf_44 : decode cX12_middleOf 44 = .ok (.iload_n 2, 1) := dk_get dk_d05_577 3 rfl
theorem dX12_middleOf_45 : decode cX12_middleOf 45 = .ok (.imul, 1) := dk_get dk_d05_577 4 rfl
theorem dX12_middleOf_46 : decode cX12_middleOf 46 = .ok (.aload_n 0, 1) := dk_get dk_d05_577 5 rfl
theorem dX12_middleOf_47 : decode cX12_middleOf 47 = .ok (.getfield 464, 3) := dk_get dk_d05_577 6 rfl
theorem dX12_middleOf_50 : decode cX12_middleOf 50 = .ok (.if_icmp .lt 5, 3) := dk_get dk_d05_577 7 rfl
theorem dX12_middleOf_53 : decode cX12_middleOf 53 = .ok (.iload_n 1, 1) := dk_get dk_d05_577 8 rfl
theorem dX12_middleOf_54 : decode cX12_middleOf 54 = .ok (.ireturn, 1) := dk_get dk_d05_577 9 rfl
theorem dX12_middleOf_55 : decode cX12_middleOf 55 = .ok (.iload_n 1, 1) := dk_get dk_d05_577 10 rfl
theorem dX12_middleOf_56 : decode cX12_middleOf 56 = .ok (.iconst 1, 1) := dk_get dk_d05_577 11 rfl
theorem dX12_middleOf_57 : decode cX12_middleOf 57 = .ok (.iadd, 1) := dk_get dk_d05_577 12 rfl
theorem dX12_middleOf_58 : decode cX12_middleOf 58 = .ok (.istore_n 1, 1) := dk_get dk_d05_577 13 rfl
theorem dX12_middleOf_59 : decode cX12_middleOf 59 = .ok (.goto (-48), 3) := dk_get dk_d05_577 14 rfl
theorem dk_d05_578 : dkc cX12_dearest [(0, .iconst 0, 1), (1, .istore_n 2, 1), (2, .iconst (-1), 1), (3, .istore_n 3, 1), (4, .iconst 0, 1), (5, .istore 4, 2), (7, .iload 4, 2), (9, .bipush 10, 2), (11, .if_icmp .ge 70, 3), (14, .iconst 0, 1), (15, .istore 5, 2), (17, .iconst 0, 1), (18, .istore 6, 2), (20, .iload 6, 2), (22, .aload_n 0, 1), (23, .getfield 467, 3), (26, .if_icmp .ge 27, 3), (29, .aload_n 0, 1), (30, .getfield 101, 3), (33, .iload 6, 2), (35, .iaload, 1), (36, .iload 4, 2), (38, .if_icmp .ne 9, 3), (41, .iload 5, 2), (43, .iconst 1, 1)] = true := by decide +kernel
theorem dX12_dearest_0 : decode cX12_dearest 0 = .ok (.iconst 0, 1) := dk_get dk_d05_578 0 rfl
theorem dX12_dearest_1 : decode cX12_dearest 1 = .ok (.istore_n 2, 1) := dk_get dk_d05_578 1 rfl
theorem dX12_dearest_2 : decode cX12_dearest 2 = .ok (.iconst (-1), 1) := dk_get dk_d05_578 2 rfl
theorem dX12_dearest_3 : decode cX12_dearest 3 = .ok (.istore_n 3, 1) := dk_get dk_d05_578 3 rfl
theorem dX12_dearest_4 : decode cX12_dearest 4 = .ok (.iconst 0, 1) := dk_get dk_d05_578 4 rfl
theorem dX12_dearest_5 : decode cX12_dearest 5 = .ok (.istore 4, 2) := dk_get dk_d05_578 5 rfl
theorem dX12_dearest_7 : decode cX12_dearest 7 = .ok (.iload 4, 2) := dk_get dk_d05_578 6 rfl
theorem dX12_dearest_9 : decode cX12_dearest 9 = .ok (.bipush 10, 2) := dk_get dk_d05_578 7 rfl
theorem dX12_dearest_11 : decode cX12_dearest 11 = .ok (.if_icmp .ge 70, 3) := dk_get dk_d05_578 8 rfl
theorem dX12_dearest_14 : decode cX12_dearest 14 = .ok (.iconst 0, 1) := dk_get dk_d05_578 9 rfl
theorem dX12_dearest_15 : decode cX12_dearest 15 = .ok (.istore 5, 2) := dk_get dk_d05_578 10 rfl
theorem dX12_dearest_17 : decode cX12_dearest 17 = .ok (.iconst 0, 1) := dk_get dk_d05_578 11 rfl
theorem dX12_dearest_18 : decode cX12_dearest 18 = .ok (.istore 6, 2) := dk_get dk_d05_578 12 rfl
theorem dX12_dearest_20 : decode cX12_dearest 20 = .ok (.iload 6, 2) := dk_get dk_d05_578 13 rfl
theorem dX12_dearest_22 : decode cX12_dearest 22 = .ok (.aload_n 0, 1) := dk_get dk_d05_578 14 rfl
theorem dX12_dearest_23 : decode cX12_dearest 23 = .ok (.getfield 467, 3) := dk_get dk_d05_578 15 rfl
theorem dX12_dearest_26 : decode cX12_dearest 26 = .ok (.if_icmp .ge 27, 3) := dk_get dk_d05_578 16 rfl
theorem dX12_dearest_29 : decode cX12_dearest 29 = .ok (.aload_n 0, 1) := dk_get dk_d05_578 17 rfl
theorem dX12_dearest_30 : decode cX12_dearest 30 = .ok (.getfield 101, 3) := dk_get dk_d05_578 18 rfl
theorem dX12_dearest_33 : decode cX12_dearest 33 = .ok (.iload 6, 2) := dk_get dk_d05_578 19 rfl
theorem dX12_dearest_35 : decode cX12_dearest 35 = .ok (.iaload, 1) := dk_get dk_d05_578 20 rfl
theorem dX12_dearest_36 : decode cX12_dearest 36 = .ok (.iload 4, 2) := dk_get dk_d05_578 21 rfl
theorem dX12_dearest_38 : decode cX12_dearest 38 = .ok (.if_icmp .ne 9, 3) := dk_get dk_d05_578 22 rfl
theorem dX12_dearest_41 : decode cX12_dearest 41 = .ok (.iload 5, 2) := dk_get dk_d05_578 23 rfl
theorem dX12_dearest_43 : decode cX12_dearest 43 = .ok (.iconst 1, 1) := dk_get dk_d05_578 24 rfl
theorem dk_d05_579 : dkc cX12_dearest [(44, .iadd, 1), (45, .istore 5, 2), (47, .iinc 6 1, 3), (50, .goto (-30), 3), (53, .iconst 2, 1), (54, .iload 5, 2), (56, .imul, 1), (57, .aload_n 0, 1), (58, .getfield 467, 3), (61, .if_icmp .le 6, 3), (64, .iload 4, 2), (66, .istore_n 3, 1), (67, .aload_n 0, 1), (68, .iload_n 2, 1), (69, .iload 5, 2), (71, .invokevirtual 421, 3), (74, .istore_n 2, 1), (75, .iinc 4 1, 3), (78, .goto (-71), 3), (81, .iload_n 1, 1), (82, .ifCond .eq 7, 3), (85, .iload_n 3, 1), (86, .goto 4, 3), (89, .iload_n 2, 1), (90, .ireturn, 1)] = true := by decide +kernel
theorem dX12_dearest_44 : decode cX12_dearest 44 = .ok (.iadd, 1) := dk_get dk_d05_579 0 rfl
theorem dX12_dearest_45 : decode cX12_dearest 45 = .ok (.istore 5, 2) := dk_get dk_d05_579 1 rfl
theorem dX12_dearest_47 : decode cX12_dearest 47 = .ok (.iinc 6 1, 3) := dk_get dk_d05_579 2 rfl
theorem dX12_dearest_50 : decode cX12_dearest 50 = .ok (.goto (-30), 3) := dk_get dk_d05_579 3 rfl
theorem dX12_dearest_53 : decode cX12_dearest 53 = .ok (.iconst 2, 1) := dk_get dk_d05_579 4 rfl
theorem dX12_dearest_54 : decode cX12_dearest 54 = .ok (.iload 5, 2) := dk_get dk_d05_579 5 rfl
theorem dX12_dearest_56 : decode cX12_dearest 56 = .ok (.imul, 1) := dk_get dk_d05_579 6 rfl
theorem dX12_dearest_57 : decode cX12_dearest 57 = .ok (.aload_n 0, 1) := dk_get dk_d05_579 7 rfl
theorem dX12_dearest_58 : decode cX12_dearest 58 = .ok (.getfield 467, 3) := dk_get dk_d05_579 8 rfl
theorem dX12_dearest_61 : decode cX12_dearest 61 = .ok (.if_icmp .le 6, 3) := dk_get dk_d05_579 9 rfl
theorem dX12_dearest_64 : decode cX12_dearest 64 = .ok (.iload 4, 2) := dk_get dk_d05_579 10 rfl
theorem dX12_dearest_66 : decode cX12_dearest 66 = .ok (.istore_n 3, 1) := dk_get dk_d05_579 11 rfl
theorem dX12_dearest_67 : decode cX12_dearest 67 = .ok (.aload_n 0, 1) := dk_get dk_d05_579 12 rfl
theorem dX12_dearest_68 : decode cX12_dearest 68 = .ok (.iload_n 2, 1) := dk_get dk_d05_579 13 rfl
theorem dX12_dearest_69 : decode cX12_dearest 69 = .ok (.iload 5, 2) := dk_get dk_d05_579 14 rfl
theorem dX12_dearest_71 : decode cX12_dearest 71 = .ok (.invokevirtual 421, 3) := dk_get dk_d05_579 15 rfl
theorem dX12_dearest_74 : decode cX12_dearest 74 = .ok (.istore_n 2, 1) := dk_get dk_d05_579 16 rfl
theorem dX12_dearest_75 : decode cX12_dearest 75 = .ok (.iinc 4 1, 3) := dk_get dk_d05_579 17 rfl
theorem dX12_dearest_78 : decode cX12_dearest 78 = .ok (.goto (-71), 3) := dk_get dk_d05_579 18 rfl
theorem dX12_dearest_81 : decode cX12_dearest 81 = .ok (.iload_n 1, 1) := dk_get dk_d05_579 19 rfl
theorem dX12_dearest_82 : decode cX12_dearest 82 = .ok (.ifCond .eq 7, 3) := dk_get dk_d05_579 20 rfl
theorem dX12_dearest_85 : decode cX12_dearest 85 = .ok (.iload_n 3, 1) := dk_get dk_d05_579 21 rfl
theorem dX12_dearest_86 : decode cX12_dearest 86 = .ok (.goto 4, 3) := dk_get dk_d05_579 22 rfl
theorem dX12_dearest_89 : decode cX12_dearest 89 = .ok (.iload_n 2, 1) := dk_get dk_d05_579 23 rfl
theorem dX12_dearest_90 : decode cX12_dearest 90 = .ok (.ireturn, 1) := dk_get dk_d05_579 24 rfl
theorem dk_d05_580 : dkc cX12_middle [(0, .aload_n 0, 1), (1, .iconst 0, 1), (2, .putfield 140, 3), (5, .aload_n 0, 1), (6, .iload_n 1, 1), (7, .iconst 0, 1), (8, .iconst 3, 1), (9, .invokevirtual 155, 3), (12, .ifCond .ne 5, 3), (15, .iconst (-1), 1), (16, .ireturn, 1), (17, .iload_n 1, 1), (18, .iconst 1, 1), (19, .if_icmp .le 18, 3), (22, .aload_n 0, 1), (23, .iload_n 1, 1), (24, .iconst 2, 1), (25, .if_icmp .ne 7, 3), (28, .iconst 1, 1), (29, .goto 4, 3), (32, .iconst 0, 1), (33, .invokevirtual 470, 3), (36, .ireturn, 1), (37, .aload_n 0, 1), (38, .invokevirtual 473, 3)] = true := by decide +kernel
theorem dX12_middle_0 : decode cX12_middle 0 = .ok (.aload_n 0, 1) := dk_get dk_d05_580 0 rfl
theorem dX12_middle_1 : decode cX12_middle 1 = .ok (.iconst 0, 1) := dk_get dk_d05_580 1 rfl
theorem dX12_middle_2 : decode cX12_middle 2 = .ok (.putfield 140, 3) := dk_get dk_d05_580 2 rfl
theorem dX12_middle_5 : decode cX12_middle 5 = .ok (.aload_n 0, 1) := dk_get dk_d05_580 3 rfl
theorem dX12_middle_6 : decode cX12_middle 6 = .ok (.iload_n 1, 1) := dk_get dk_d05_580 4 rfl
theorem dX12_middle_7 : decode cX12_middle 7 = .ok (.iconst 0, 1) := dk_get dk_d05_580 5 rfl
theorem dX12_middle_8 : decode cX12_middle 8 = .ok (.iconst 3, 1) := dk_get dk_d05_580 6 rfl
theorem dX12_middle_9 : decode cX12_middle 9 = .ok (.invokevirtual 155, 3) := dk_get dk_d05_580 7 rfl
theorem dX12_middle_12 : decode cX12_middle 12 = .ok (.ifCond .ne 5, 3) := dk_get dk_d05_580 8 rfl
theorem dX12_middle_15 : decode cX12_middle 15 = .ok (.iconst (-1), 1) := dk_get dk_d05_580 9 rfl
theorem dX12_middle_16 : decode cX12_middle 16 = .ok (.ireturn, 1) := dk_get dk_d05_580 10 rfl
theorem dX12_middle_17 : decode cX12_middle 17 = .ok (.iload_n 1, 1) := dk_get dk_d05_580 11 rfl
theorem dX12_middle_18 : decode cX12_middle 18 = .ok (.iconst 1, 1) := dk_get dk_d05_580 12 rfl
theorem dX12_middle_19 : decode cX12_middle 19 = .ok (.if_icmp .le 18, 3) := dk_get dk_d05_580 13 rfl
theorem dX12_middle_22 : decode cX12_middle 22 = .ok (.aload_n 0, 1) := dk_get dk_d05_580 14 rfl
theorem dX12_middle_23 : decode cX12_middle 23 = .ok (.iload_n 1, 1) := dk_get dk_d05_580 15 rfl
theorem dX12_middle_24 : decode cX12_middle 24 = .ok (.iconst 2, 1) := dk_get dk_d05_580 16 rfl
theorem dX12_middle_25 : decode cX12_middle 25 = .ok (.if_icmp .ne 7, 3) := dk_get dk_d05_580 17 rfl
theorem dX12_middle_28 : decode cX12_middle 28 = .ok (.iconst 1, 1) := dk_get dk_d05_580 18 rfl
theorem dX12_middle_29 : decode cX12_middle 29 = .ok (.goto 4, 3) := dk_get dk_d05_580 19 rfl
theorem dX12_middle_32 : decode cX12_middle 32 = .ok (.iconst 0, 1) := dk_get dk_d05_580 20 rfl
theorem dX12_middle_33 : decode cX12_middle 33 = .ok (.invokevirtual 470, 3) := dk_get dk_d05_580 21 rfl
theorem dX12_middle_36 : decode cX12_middle 36 = .ok (.ireturn, 1) := dk_get dk_d05_580 22 rfl
theorem dX12_middle_37 : decode cX12_middle 37 = .ok (.aload_n 0, 1) := dk_get dk_d05_580 23 rfl
theorem dX12_middle_38 : decode cX12_middle 38 = .ok (.invokevirtual 473, 3) := dk_get dk_d05_580 24 rfl
theorem dk_d05_581 : dkc cX12_middle [(41, .istore_n 2, 1), (42, .iload_n 1, 1), (43, .ifCond .ne 5, 3), (46, .iload_n 2, 1), (47, .ireturn, 1), (48, .iconst 0, 1), (49, .istore_n 3, 1), (50, .iconst 0, 1), (51, .istore 4, 2), (53, .iload 4, 2), (55, .aload_n 0, 1), (56, .getfield 464, 3), (59, .if_icmp .ge 24, 3), (62, .iload_n 3, 1), (63, .aload_n 0, 1), (64, .aload_n 0, 1), (65, .getfield 98, 3), (68, .iload 4, 2), (70, .iaload, 1), (71, .iload_n 2, 1), (72, .invokevirtual 476, 3), (75, .iadd, 1), (76, .istore_n 3, 1), (77, .iinc 4 1, 3), (80, .goto (-27), 3)] = true := by decide +kernel
theorem dX12_middle_41 : decode cX12_middle 41 = .ok (.istore_n 2, 1) := dk_get dk_d05_581 0 rfl
theorem dX12_middle_42 : decode cX12_middle 42 = .ok (.iload_n 1, 1) := dk_get dk_d05_581 1 rfl
theorem dX12_middle_43 : decode cX12_middle 43 = .ok (.ifCond .ne 5, 3) := dk_get dk_d05_581 2 rfl
theorem dX12_middle_46 : decode cX12_middle 46 = .ok (.iload_n 2, 1) := dk_get dk_d05_581 3 rfl
theorem dX12_middle_47 : decode cX12_middle 47 = .ok (.ireturn, 1) := dk_get dk_d05_581 4 rfl
theorem dX12_middle_48 : decode cX12_middle 48 = .ok (.iconst 0, 1) := dk_get dk_d05_581 5 rfl
theorem dX12_middle_49 : decode cX12_middle 49 = .ok (.istore_n 3, 1) := dk_get dk_d05_581 6 rfl
theorem dX12_middle_50 : decode cX12_middle 50 = .ok (.iconst 0, 1) := dk_get dk_d05_581 7 rfl
theorem dX12_middle_51 : decode cX12_middle 51 = .ok (.istore 4, 2) := dk_get dk_d05_581 8 rfl
theorem dX12_middle_53 : decode cX12_middle 53 = .ok (.iload 4, 2) := dk_get dk_d05_581 9 rfl
theorem dX12_middle_55 : decode cX12_middle 55 = .ok (.aload_n 0, 1) := dk_get dk_d05_581 10 rfl
theorem dX12_middle_56 : decode cX12_middle 56 = .ok (.getfield 464, 3) := dk_get dk_d05_581 11 rfl
theorem dX12_middle_59 : decode cX12_middle 59 = .ok (.if_icmp .ge 24, 3) := dk_get dk_d05_581 12 rfl
theorem dX12_middle_62 : decode cX12_middle 62 = .ok (.iload_n 3, 1) := dk_get dk_d05_581 13 rfl
theorem dX12_middle_63 : decode cX12_middle 63 = .ok (.aload_n 0, 1) := dk_get dk_d05_581 14 rfl
theorem dX12_middle_64 : decode cX12_middle 64 = .ok (.aload_n 0, 1) := dk_get dk_d05_581 15 rfl
theorem dX12_middle_65 : decode cX12_middle 65 = .ok (.getfield 98, 3) := dk_get dk_d05_581 16 rfl
theorem dX12_middle_68 : decode cX12_middle 68 = .ok (.iload 4, 2) := dk_get dk_d05_581 17 rfl
theorem dX12_middle_70 : decode cX12_middle 70 = .ok (.iaload, 1) := dk_get dk_d05_581 18 rfl
theorem dX12_middle_71 : decode cX12_middle 71 = .ok (.iload_n 2, 1) := dk_get dk_d05_581 19 rfl
theorem dX12_middle_72 : decode cX12_middle 72 = .ok (.invokevirtual 476, 3) := dk_get dk_d05_581 20 rfl
theorem dX12_middle_75 : decode cX12_middle 75 = .ok (.iadd, 1) := dk_get dk_d05_581 21 rfl
theorem dX12_middle_76 : decode cX12_middle 76 = .ok (.istore_n 3, 1) := dk_get dk_d05_581 22 rfl
theorem dX12_middle_77 : decode cX12_middle 77 = .ok (.iinc 4 1, 3) := dk_get dk_d05_581 23 rfl
theorem dX12_middle_80 : decode cX12_middle 80 = .ok (.goto (-27), 3) := dk_get dk_d05_581 24 rfl
theorem dk_d05_582 : dkc cX12_middle [(83, .iload_n 3, 1), (84, .ireturn, 1)] = true := by decide +kernel
theorem dX12_middle_83 : decode cX12_middle 83 = .ok (.iload_n 3, 1) := dk_get dk_d05_582 0 rfl
theorem dX12_middle_84 : decode cX12_middle 84 = .ok (.ireturn, 1) := dk_get dk_d05_582 1 rfl
theorem dk_d05_583 : dkc cX12_candle [(0, .aload_n 0, 1), (1, .iconst 0, 1), (2, .putfield 140, 3), (5, .iload_n 1, 1), (6, .iconst (-1), 1), (7, .if_icmp .ne 10, 3), (10, .aload_n 0, 1), (11, .iconst 0, 1), (12, .putfield 479, 3), (15, .iconst 0, 1), (16, .ireturn, 1), (17, .aload_n 0, 1), (18, .iload_n 1, 1), (19, .iconst 1, 1), (20, .bipush 50, 2), (22, .invokevirtual 155, 3), (25, .ifCond .eq 12, 3), (28, .aload_n 0, 1), (29, .getfield 479, 3), (32, .bipush 8, 2), (34, .if_icmp .ne 5, 3), (37, .iconst (-1), 1), (38, .ireturn, 1), (39, .aload_n 0, 1), (40, .getfield 104, 3)] = true := by decide +kernel
theorem dX12_candle_0 : decode cX12_candle 0 = .ok (.aload_n 0, 1) := dk_get dk_d05_583 0 rfl
theorem dX12_candle_1 : decode cX12_candle 1 = .ok (.iconst 0, 1) := dk_get dk_d05_583 1 rfl
theorem dX12_candle_2 : decode cX12_candle 2 = .ok (.putfield 140, 3) := dk_get dk_d05_583 2 rfl
theorem dX12_candle_5 : decode cX12_candle 5 = .ok (.iload_n 1, 1) := dk_get dk_d05_583 3 rfl
theorem dX12_candle_6 : decode cX12_candle 6 = .ok (.iconst (-1), 1) := dk_get dk_d05_583 4 rfl
theorem dX12_candle_7 : decode cX12_candle 7 = .ok (.if_icmp .ne 10, 3) := dk_get dk_d05_583 5 rfl
theorem dX12_candle_10 : decode cX12_candle 10 = .ok (.aload_n 0, 1) := dk_get dk_d05_583 6 rfl
theorem dX12_candle_11 : decode cX12_candle 11 = .ok (.iconst 0, 1) := dk_get dk_d05_583 7 rfl
theorem dX12_candle_12 : decode cX12_candle 12 = .ok (.putfield 479, 3) := dk_get dk_d05_583 8 rfl
theorem dX12_candle_15 : decode cX12_candle 15 = .ok (.iconst 0, 1) := dk_get dk_d05_583 9 rfl
theorem dX12_candle_16 : decode cX12_candle 16 = .ok (.ireturn, 1) := dk_get dk_d05_583 10 rfl
theorem dX12_candle_17 : decode cX12_candle 17 = .ok (.aload_n 0, 1) := dk_get dk_d05_583 11 rfl
theorem dX12_candle_18 : decode cX12_candle 18 = .ok (.iload_n 1, 1) := dk_get dk_d05_583 12 rfl
theorem dX12_candle_19 : decode cX12_candle 19 = .ok (.iconst 1, 1) := dk_get dk_d05_583 13 rfl
theorem dX12_candle_20 : decode cX12_candle 20 = .ok (.bipush 50, 2) := dk_get dk_d05_583 14 rfl
theorem dX12_candle_22 : decode cX12_candle 22 = .ok (.invokevirtual 155, 3) := dk_get dk_d05_583 15 rfl
theorem dX12_candle_25 : decode cX12_candle 25 = .ok (.ifCond .eq 12, 3) := dk_get dk_d05_583 16 rfl
theorem dX12_candle_28 : decode cX12_candle 28 = .ok (.aload_n 0, 1) := dk_get dk_d05_583 17 rfl
theorem dX12_candle_29 : decode cX12_candle 29 = .ok (.getfield 479, 3) := dk_get dk_d05_583 18 rfl
theorem dX12_candle_32 : decode cX12_candle 32 = .ok (.bipush 8, 2) := dk_get dk_d05_583 19 rfl
theorem dX12_candle_34 : decode cX12_candle 34 = .ok (.if_icmp .ne 5, 3) := dk_get dk_d05_583 20 rfl
theorem dX12_candle_37 : decode cX12_candle 37 = .ok (.iconst (-1), 1) := dk_get dk_d05_583 21 rfl
theorem dX12_candle_38 : decode cX12_candle 38 = .ok (.ireturn, 1) := dk_get dk_d05_583 22 rfl
theorem dX12_candle_39 : decode cX12_candle 39 = .ok (.aload_n 0, 1) := dk_get dk_d05_583 23 rfl
theorem dX12_candle_40 : decode cX12_candle 40 = .ok (.getfield 104, 3) := dk_get dk_d05_583 24 rfl
theorem dk_d05_584 : dkc cX12_candle [(43, .aload_n 0, 1), (44, .getfield 479, 3), (47, .iload_n 1, 1), (48, .iastore, 1), (49, .aload_n 0, 1), (50, .aload_n 0, 1), (51, .getfield 479, 3), (54, .iconst 1, 1), (55, .iadd, 1), (56, .putfield 479, 3), (59, .aload_n 0, 1), (60, .getfield 479, 3), (63, .ireturn, 1)] = true := by decide +kernel
theorem dX12_candle_43 : decode cX12_candle 43 = .ok (.aload_n 0, 1) := dk_get dk_d05_584 0 rfl
theorem dX12_candle_44 : decode cX12_candle 44 = .ok (.getfield 479, 3) := dk_get dk_d05_584 1 rfl
theorem dX12_candle_47 : decode cX12_candle 47 = .ok (.iload_n 1, 1) := dk_get dk_d05_584 2 rfl
theorem dX12_candle_48 : decode cX12_candle 48 = .ok (.iastore, 1) := dk_get dk_d05_584 3 rfl
theorem dX12_candle_49 : decode cX12_candle 49 = .ok (.aload_n 0, 1) := dk_get dk_d05_584 4 rfl
theorem dX12_candle_50 : decode cX12_candle 50 = .ok (.aload_n 0, 1) := dk_get dk_d05_584 5 rfl
theorem dX12_candle_51 : decode cX12_candle 51 = .ok (.getfield 479, 3) := dk_get dk_d05_584 6 rfl
theorem dX12_candle_54 : decode cX12_candle 54 = .ok (.iconst 1, 1) := dk_get dk_d05_584 7 rfl
theorem dX12_candle_55 : decode cX12_candle 55 = .ok (.iadd, 1) := dk_get dk_d05_584 8 rfl
theorem dX12_candle_56 : decode cX12_candle 56 = .ok (.putfield 479, 3) := dk_get dk_d05_584 9 rfl
theorem dX12_candle_59 : decode cX12_candle 59 = .ok (.aload_n 0, 1) := dk_get dk_d05_584 10 rfl
theorem dX12_candle_60 : decode cX12_candle 60 = .ok (.getfield 479, 3) := dk_get dk_d05_584 11 rfl
theorem dX12_candle_63 : decode cX12_candle 63 = .ok (.ireturn, 1) := dk_get dk_d05_584 12 rfl
theorem dk_d05_585 : dkc cX12_candles [(0, .aload_n 0, 1), (1, .iconst 0, 1), (2, .putfield 140, 3), (5, .aload_n 0, 1), (6, .iload_n 1, 1), (7, .iconst 0, 1), (8, .sipush 400, 3), (11, .invokevirtual 155, 3), (14, .ifCond .eq 13, 3), (17, .aload_n 0, 1), (18, .iload_n 2, 1), (19, .iconst 0, 1), (20, .iconst 1, 1), (21, .invokevirtual 155, 3), (24, .ifCond .ne 5, 3), (27, .iconst (-1), 1), (28, .ireturn, 1), (29, .iconst 0, 1), (30, .istore_n 3, 1), (31, .iload_n 3, 1), (32, .sipush 400, 3), (35, .if_icmp .gt 24, 3), (38, .aload_n 0, 1), (39, .getfield 107, 3), (42, .iload_n 3, 1)] = true := by decide +kernel
theorem dX12_candles_0 : decode cX12_candles 0 = .ok (.aload_n 0, 1) := dk_get dk_d05_585 0 rfl
theorem dX12_candles_1 : decode cX12_candles 1 = .ok (.iconst 0, 1) := dk_get dk_d05_585 1 rfl
theorem dX12_candles_2 : decode cX12_candles 2 = .ok (.putfield 140, 3) := dk_get dk_d05_585 2 rfl
theorem dX12_candles_5 : decode cX12_candles 5 = .ok (.aload_n 0, 1) := dk_get dk_d05_585 3 rfl
theorem dX12_candles_6 : decode cX12_candles 6 = .ok (.iload_n 1, 1) := dk_get dk_d05_585 4 rfl
theorem dX12_candles_7 : decode cX12_candles 7 = .ok (.iconst 0, 1) := dk_get dk_d05_585 5 rfl
theorem dX12_candles_8 : decode cX12_candles 8 = .ok (.sipush 400, 3) := dk_get dk_d05_585 6 rfl
theorem dX12_candles_11 : decode cX12_candles 11 = .ok (.invokevirtual 155, 3) := dk_get dk_d05_585 7 rfl
theorem dX12_candles_14 : decode cX12_candles 14 = .ok (.ifCond .eq 13, 3) := dk_get dk_d05_585 8 rfl
theorem dX12_candles_17 : decode cX12_candles 17 = .ok (.aload_n 0, 1) := dk_get dk_d05_585 9 rfl
theorem dX12_candles_18 : decode cX12_candles 18 = .ok (.iload_n 2, 1) := dk_get dk_d05_585 10 rfl
theorem dX12_candles_19 : decode cX12_candles 19 = .ok (.iconst 0, 1) := dk_get dk_d05_585 11 rfl
theorem dX12_candles_20 : decode cX12_candles 20 = .ok (.iconst 1, 1) := dk_get dk_d05_585 12 rfl
theorem dX12_candles_21 : decode cX12_candles 21 = .ok (.invokevirtual 155, 3) := dk_get dk_d05_585 13 rfl
theorem dX12_candles_24 : decode cX12_candles 24 = .ok (.ifCond .ne 5, 3) := dk_get dk_d05_585 14 rfl
theorem dX12_candles_27 : decode cX12_candles 27 = .ok (.iconst (-1), 1) := dk_get dk_d05_585 15 rfl
theorem dX12_candles_28 : decode cX12_candles 28 = .ok (.ireturn, 1) := dk_get dk_d05_585 16 rfl
theorem dX12_candles_29 : decode cX12_candles 29 = .ok (.iconst 0, 1) := dk_get dk_d05_585 17 rfl
theorem dX12_candles_30 : decode cX12_candles 30 = .ok (.istore_n 3, 1) := dk_get dk_d05_585 18 rfl
theorem dX12_candles_31 : decode cX12_candles 31 = .ok (.iload_n 3, 1) := dk_get dk_d05_585 19 rfl
theorem dX12_candles_32 : decode cX12_candles 32 = .ok (.sipush 400, 3) := dk_get dk_d05_585 20 rfl
theorem dX12_candles_35 : decode cX12_candles 35 = .ok (.if_icmp .gt 24, 3) := dk_get dk_d05_585 21 rfl
theorem dX12_candles_38 : decode cX12_candles 38 = .ok (.aload_n 0, 1) := dk_get dk_d05_585 22 rfl
theorem dX12_candles_39 : decode cX12_candles 39 = .ok (.getfield 107, 3) := dk_get dk_d05_585 23 rfl
theorem dX12_candles_42 : decode cX12_candles 42 = .ok (.iload_n 3, 1) := dk_get dk_d05_585 24 rfl
theorem dk_d05_586 : dkc cX12_candles [(43, .iload_n 3, 1), (44, .ifCond .ne 7, 3), (47, .iconst 1, 1), (48, .goto 4, 3), (51, .iconst 0, 1), (52, .iastore, 1), (53, .iinc 3 1, 3), (56, .goto (-25), 3), (59, .iconst 0, 1), (60, .istore_n 3, 1), (61, .iload_n 3, 1), (62, .aload_n 0, 1), (63, .getfield 479, 3), (66, .if_icmp .ge 57, 3), (69, .sipush 400, 3), (72, .istore 4, 2), (74, .iload 4, 2), (76, .aload_n 0, 1), (77, .getfield 104, 3), (80, .iload_n 3, 1), (81, .iaload, 1), (82, .if_icmp .lt 35, 3), (85, .aload_n 0, 1), (86, .getfield 107, 3), (89, .iload 4, 2)] = true := by decide +kernel
theorem dX12_candles_43 : decode cX12_candles 43 = .ok (.iload_n 3, 1) := dk_get dk_d05_586 0 rfl
theorem dX12_candles_44 : decode cX12_candles 44 = .ok (.ifCond .ne 7, 3) := dk_get dk_d05_586 1 rfl
theorem dX12_candles_47 : decode cX12_candles 47 = .ok (.iconst 1, 1) := dk_get dk_d05_586 2 rfl
theorem dX12_candles_48 : decode cX12_candles 48 = .ok (.goto 4, 3) := dk_get dk_d05_586 3 rfl
theorem dX12_candles_51 : decode cX12_candles 51 = .ok (.iconst 0, 1) := dk_get dk_d05_586 4 rfl
theorem dX12_candles_52 : decode cX12_candles 52 = .ok (.iastore, 1) := dk_get dk_d05_586 5 rfl
theorem dX12_candles_53 : decode cX12_candles 53 = .ok (.iinc 3 1, 3) := dk_get dk_d05_586 6 rfl
theorem dX12_candles_56 : decode cX12_candles 56 = .ok (.goto (-25), 3) := dk_get dk_d05_586 7 rfl
theorem dX12_candles_59 : decode cX12_candles 59 = .ok (.iconst 0, 1) := dk_get dk_d05_586 8 rfl
theorem dX12_candles_60 : decode cX12_candles 60 = .ok (.istore_n 3, 1) := dk_get dk_d05_586 9 rfl
theorem dX12_candles_61 : decode cX12_candles 61 = .ok (.iload_n 3, 1) := dk_get dk_d05_586 10 rfl
theorem dX12_candles_62 : decode cX12_candles 62 = .ok (.aload_n 0, 1) := dk_get dk_d05_586 11 rfl
theorem dX12_candles_63 : decode cX12_candles 63 = .ok (.getfield 479, 3) := dk_get dk_d05_586 12 rfl
theorem dX12_candles_66 : decode cX12_candles 66 = .ok (.if_icmp .ge 57, 3) := dk_get dk_d05_586 13 rfl
theorem dX12_candles_69 : decode cX12_candles 69 = .ok (.sipush 400, 3) := dk_get dk_d05_586 14 rfl
theorem dX12_candles_72 : decode cX12_candles 72 = .ok (.istore 4, 2) := dk_get dk_d05_586 15 rfl
theorem dX12_candles_74 : decode cX12_candles 74 = .ok (.iload 4, 2) := dk_get dk_d05_586 16 rfl
theorem dX12_candles_76 : decode cX12_candles 76 = .ok (.aload_n 0, 1) := dk_get dk_d05_586 17 rfl
theorem dX12_candles_77 : decode cX12_candles 77 = .ok (.getfield 104, 3) := dk_get dk_d05_586 18 rfl
theorem dX12_candles_80 : decode cX12_candles 80 = .ok (.iload_n 3, 1) := dk_get dk_d05_586 19 rfl
theorem dX12_candles_81 : decode cX12_candles 81 = .ok (.iaload, 1) := dk_get dk_d05_586 20 rfl
theorem dX12_candles_82 : decode cX12_candles 82 = .ok (.if_icmp .lt 35, 3) := dk_get dk_d05_586 21 rfl
theorem dX12_candles_85 : decode cX12_candles 85 = .ok (.aload_n 0, 1) := dk_get dk_d05_586 22 rfl
theorem dX12_candles_86 : decode cX12_candles 86 = .ok (.getfield 107, 3) := dk_get dk_d05_586 23 rfl
theorem dX12_candles_89 : decode cX12_candles 89 = .ok (.iload 4, 2) := dk_get dk_d05_586 24 rfl
theorem dk_d05_587 : dkc cX12_candles [(91, .aload_n 0, 1), (92, .getfield 104, 3), (95, .iload_n 3, 1), (96, .iaload, 1), (97, .isub, 1), (98, .iaload, 1), (99, .iconst 1, 1), (100, .if_icmp .ne 11, 3), (103, .aload_n 0, 1), (104, .getfield 107, 3), (107, .iload 4, 2), (109, .iconst 1, 1), (110, .iastore, 1), (111, .iinc 4 (-1), 3), (114, .goto (-40), 3), (117, .iinc 3 1, 3), (120, .goto (-59), 3), (123, .iconst 0, 1), (124, .istore_n 3, 1), (125, .iconst 0, 1), (126, .istore 4, 2), (128, .iconst 0, 1), (129, .istore 5, 2), (131, .iload 5, 2), (133, .iload_n 1, 1)] = true := by decide +kernel
theorem dX12_candles_91 : decode cX12_candles 91 = .ok (.aload_n 0, 1) := dk_get dk_d05_587 0 rfl
theorem dX12_candles_92 : decode cX12_candles 92 = .ok (.getfield 104, 3) := dk_get dk_d05_587 1 rfl
theorem dX12_candles_95 : decode cX12_candles 95 = .ok (.iload_n 3, 1) := dk_get dk_d05_587 2 rfl
theorem dX12_candles_96 : decode cX12_candles 96 = .ok (.iaload, 1) := dk_get dk_d05_587 3 rfl
theorem dX12_candles_97 : decode cX12_candles 97 = .ok (.isub, 1) := dk_get dk_d05_587 4 rfl
theorem dX12_candles_98 : decode cX12_candles 98 = .ok (.iaload, 1) := dk_get dk_d05_587 5 rfl
theorem dX12_candles_99 : decode cX12_candles 99 = .ok (.iconst 1, 1) := dk_get dk_d05_587 6 rfl
theorem dX12_candles_100 : decode cX12_candles 100 = .ok (.if_icmp .ne 11, 3) := dk_get dk_d05_587 7 rfl
theorem dX12_candles_103 : decode cX12_candles 103 = .ok (.aload_n 0, 1) := dk_get dk_d05_587 8 rfl
theorem dX12_candles_104 : decode cX12_candles 104 = .ok (.getfield 107, 3) := dk_get dk_d05_587 9 rfl
theorem dX12_candles_107 : decode cX12_candles 107 = .ok (.iload 4, 2) := dk_get dk_d05_587 10 rfl
theorem dX12_candles_109 : decode cX12_candles 109 = .ok (.iconst 1, 1) := dk_get dk_d05_587 11 rfl
theorem dX12_candles_110 : decode cX12_candles 110 = .ok (.iastore, 1) := dk_get dk_d05_587 12 rfl
theorem dX12_candles_111 : decode cX12_candles 111 = .ok (.iinc 4 (-1), 3) := dk_get dk_d05_587 13 rfl
theorem dX12_candles_114 : decode cX12_candles 114 = .ok (.goto (-40), 3) := dk_get dk_d05_587 14 rfl
theorem dX12_candles_117 : decode cX12_candles 117 = .ok (.iinc 3 1, 3) := dk_get dk_d05_587 15 rfl
theorem dX12_candles_120 : decode cX12_candles 120 = .ok (.goto (-59), 3) := dk_get dk_d05_587 16 rfl
theorem dX12_candles_123 : decode cX12_candles 123 = .ok (.iconst 0, 1) := dk_get dk_d05_587 17 rfl
theorem dX12_candles_124 : decode cX12_candles 124 = .ok (.istore_n 3, 1) := dk_get dk_d05_587 18 rfl
theorem dX12_candles_125 : decode cX12_candles 125 = .ok (.iconst 0, 1) := dk_get dk_d05_587 19 rfl
theorem dX12_candles_126 : decode cX12_candles 126 = .ok (.istore 4, 2) := dk_get dk_d05_587 20 rfl
theorem dX12_candles_128 : decode cX12_candles 128 = .ok (.iconst 0, 1) := dk_get dk_d05_587 21 rfl
theorem dX12_candles_129 : decode cX12_candles 129 = .ok (.istore 5, 2) := dk_get dk_d05_587 22 rfl
theorem dX12_candles_131 : decode cX12_candles 131 = .ok (.iload 5, 2) := dk_get dk_d05_587 23 rfl
theorem dX12_candles_133 : decode cX12_candles 133 = .ok (.iload_n 1, 1) := dk_get dk_d05_587 24 rfl
theorem dk_d05_588 : dkc cX12_candles [(134, .if_icmp .gt 34, 3), (137, .iload_n 3, 1), (138, .aload_n 0, 1), (139, .getfield 107, 3), (142, .iload 5, 2), (144, .iaload, 1), (145, .iadd, 1), (146, .istore_n 3, 1), (147, .aload_n 0, 1), (148, .getfield 107, 3), (151, .iload 5, 2), (153, .iaload, 1), (154, .iconst 1, 1), (155, .if_icmp .ne 7, 3), (158, .iload 5, 2), (160, .istore 4, 2), (162, .iinc 5 1, 3), (165, .goto (-34), 3), (168, .iload_n 2, 1), (169, .ifCond .ne 7, 3), (172, .iload_n 3, 1), (173, .goto 5, 3), (176, .iload 4, 2), (178, .ireturn, 1)] = true := by decide +kernel
theorem dX12_candles_134 : decode cX12_candles 134 = .ok (.if_icmp .gt 34, 3) := dk_get dk_d05_588 0 rfl
theorem dX12_candles_137 : decode cX12_candles 137 = .ok (.iload_n 3, 1) := dk_get dk_d05_588 1 rfl
theorem dX12_candles_138 : decode cX12_candles 138 = .ok (.aload_n 0, 1) := dk_get dk_d05_588 2 rfl
theorem dX12_candles_139 : decode cX12_candles 139 = .ok (.getfield 107, 3) := dk_get dk_d05_588 3 rfl
theorem dX12_candles_142 : decode cX12_candles 142 = .ok (.iload 5, 2) := dk_get dk_d05_588 4 rfl
theorem dX12_candles_144 : decode cX12_candles 144 = .ok (.iaload, 1) := dk_get dk_d05_588 5 rfl
theorem dX12_candles_145 : decode cX12_candles 145 = .ok (.iadd, 1) := dk_get dk_d05_588 6 rfl
theorem dX12_candles_146 : decode cX12_candles 146 = .ok (.istore_n 3, 1) := dk_get dk_d05_588 7 rfl
theorem dX12_candles_147 : decode cX12_candles 147 = .ok (.aload_n 0, 1) := dk_get dk_d05_588 8 rfl
theorem dX12_candles_148 : decode cX12_candles 148 = .ok (.getfield 107, 3) := dk_get dk_d05_588 9 rfl
theorem dX12_candles_151 : decode cX12_candles 151 = .ok (.iload 5, 2) := dk_get dk_d05_588 10 rfl
theorem dX12_candles_153 : decode cX12_candles 153 = .ok (.iaload, 1) := dk_get dk_d05_588 11 rfl
theorem dX12_candles_154 : decode cX12_candles 154 = .ok (.iconst 1, 1) := dk_get dk_d05_588 12 rfl
theorem dX12_candles_155 : decode cX12_candles 155 = .ok (.if_icmp .ne 7, 3) := dk_get dk_d05_588 13 rfl
theorem dX12_candles_158 : decode cX12_candles 158 = .ok (.iload 5, 2) := dk_get dk_d05_588 14 rfl
theorem dX12_candles_160 : decode cX12_candles 160 = .ok (.istore 4, 2) := dk_get dk_d05_588 15 rfl
theorem dX12_candles_162 : decode cX12_candles 162 = .ok (.iinc 5 1, 3) := dk_get dk_d05_588 16 rfl
theorem dX12_candles_165 : decode cX12_candles 165 = .ok (.goto (-34), 3) := dk_get dk_d05_588 17 rfl
theorem dX12_candles_168 : decode cX12_candles 168 = .ok (.iload_n 2, 1) := dk_get dk_d05_588 18 rfl
theorem dX12_candles_169 : decode cX12_candles 169 = .ok (.ifCond .ne 7, 3) := dk_get dk_d05_588 19 rfl
theorem dX12_candles_172 : decode cX12_candles 172 = .ok (.iload_n 3, 1) := dk_get dk_d05_588 20 rfl
theorem dX12_candles_173 : decode cX12_candles 173 = .ok (.goto 5, 3) := dk_get dk_d05_588 21 rfl
theorem dX12_candles_176 : decode cX12_candles 176 = .ok (.iload 4, 2) := dk_get dk_d05_588 22 rfl
theorem dX12_candles_178 : decode cX12_candles 178 = .ok (.ireturn, 1) := dk_get dk_d05_588 23 rfl
theorem dk_d05_589 : dkc cX12_door [(0, .aload_n 0, 1), (1, .iconst 0, 1), (2, .putfield 140, 3), (5, .iload_n 1, 1), (6, .iconst (-1), 1), (7, .if_icmp .ne 10, 3), (10, .aload_n 0, 1), (11, .iconst 0, 1), (12, .putfield 482, 3), (15, .iconst 0, 1), (16, .ireturn, 1), (17, .aload_n 0, 1), (18, .iload_n 1, 1), (19, .iconst 1, 1), (20, .bipush 50, 2), (22, .invokevirtual 155, 3), (25, .ifCond .eq 24, 3), (28, .aload_n 0, 1), (29, .iload_n 2, 1), (30, .iconst 0, 1), (31, .sipush 200, 3), (34, .invokevirtual 155, 3), (37, .ifCond .eq 12, 3), (40, .aload_n 0, 1), (41, .getfield 482, 3)] = true := by decide +kernel
theorem dX12_door_0 : decode cX12_door 0 = .ok (.aload_n 0, 1) := dk_get dk_d05_589 0 rfl
theorem dX12_door_1 : decode cX12_door 1 = .ok (.iconst 0, 1) := dk_get dk_d05_589 1 rfl
theorem dX12_door_2 : decode cX12_door 2 = .ok (.putfield 140, 3) := dk_get dk_d05_589 2 rfl
theorem dX12_door_5 : decode cX12_door 5 = .ok (.iload_n 1, 1) := dk_get dk_d05_589 3 rfl
theorem dX12_door_6 : decode cX12_door 6 = .ok (.iconst (-1), 1) := dk_get dk_d05_589 4 rfl
theorem dX12_door_7 : decode cX12_door 7 = .ok (.if_icmp .ne 10, 3) := dk_get dk_d05_589 5 rfl
theorem dX12_door_10 : decode cX12_door 10 = .ok (.aload_n 0, 1) := dk_get dk_d05_589 6 rfl
theorem dX12_door_11 : decode cX12_door 11 = .ok (.iconst 0, 1) := dk_get dk_d05_589 7 rfl
theorem dX12_door_12 : decode cX12_door 12 = .ok (.putfield 482, 3) := dk_get dk_d05_589 8 rfl
theorem dX12_door_15 : decode cX12_door 15 = .ok (.iconst 0, 1) := dk_get dk_d05_589 9 rfl
theorem dX12_door_16 : decode cX12_door 16 = .ok (.ireturn, 1) := dk_get dk_d05_589 10 rfl
theorem dX12_door_17 : decode cX12_door 17 = .ok (.aload_n 0, 1) := dk_get dk_d05_589 11 rfl
theorem dX12_door_18 : decode cX12_door 18 = .ok (.iload_n 1, 1) := dk_get dk_d05_589 12 rfl
theorem dX12_door_19 : decode cX12_door 19 = .ok (.iconst 1, 1) := dk_get dk_d05_589 13 rfl
theorem dX12_door_20 : decode cX12_door 20 = .ok (.bipush 50, 2) := dk_get dk_d05_589 14 rfl
theorem dX12_door_22 : decode cX12_door 22 = .ok (.invokevirtual 155, 3) := dk_get dk_d05_589 15 rfl
theorem dX12_door_25 : decode cX12_door 25 = .ok (.ifCond .eq 24, 3) := dk_get dk_d05_589 16 rfl
theorem dX12_door_28 : decode cX12_door 28 = .ok (.aload_n 0, 1) := dk_get dk_d05_589 17 rfl
theorem dX12_door_29 : decode cX12_door 29 = .ok (.iload_n 2, 1) := dk_get dk_d05_589 18 rfl
theorem dX12_door_30 : decode cX12_door 30 = .ok (.iconst 0, 1) := dk_get dk_d05_589 19 rfl
theorem dX12_door_31 : decode cX12_door 31 = .ok (.sipush 200, 3) := dk_get dk_d05_589 20 rfl
theorem dX12_door_34 : decode cX12_door 34 = .ok (.invokevirtual 155, 3) := dk_get dk_d05_589 21 rfl
theorem dX12_door_37 : decode cX12_door 37 = .ok (.ifCond .eq 12, 3) := dk_get dk_d05_589 22 rfl
theorem dX12_door_40 : decode cX12_door 40 = .ok (.aload_n 0, 1) := dk_get dk_d05_589 23 rfl
theorem dX12_door_41 : decode cX12_door 41 = .ok (.getfield 482, 3) := dk_get dk_d05_589 24 rfl
theorem dk_d05_590 : dkc cX12_door [(44, .bipush 8, 2), (46, .if_icmp .ne 5, 3), (49, .iconst (-1), 1), (50, .ireturn, 1), (51, .aload_n 0, 1), (52, .getfield 110, 3), (55, .aload_n 0, 1), (56, .getfield 482, 3), (59, .iload_n 1, 1), (60, .iastore, 1), (61, .aload_n 0, 1), (62, .getfield 113, 3), (65, .aload_n 0, 1), (66, .getfield 482, 3), (69, .iload_n 2, 1), (70, .iastore, 1), (71, .aload_n 0, 1), (72, .aload_n 0, 1), (73, .getfield 482, 3), (76, .iconst 1, 1), (77, .iadd, 1), (78, .putfield 482, 3), (81, .aload_n 0, 1), (82, .getfield 482, 3), (85, .ireturn, 1)] = true := by decide +kernel
theorem dX12_door_44 : decode cX12_door 44 = .ok (.bipush 8, 2) := dk_get dk_d05_590 0 rfl
theorem dX12_door_46 : decode cX12_door 46 = .ok (.if_icmp .ne 5, 3) := dk_get dk_d05_590 1 rfl
theorem dX12_door_49 : decode cX12_door 49 = .ok (.iconst (-1), 1) := dk_get dk_d05_590 2 rfl
theorem dX12_door_50 : decode cX12_door 50 = .ok (.ireturn, 1) := dk_get dk_d05_590 3 rfl
theorem dX12_door_51 : decode cX12_door 51 = .ok (.aload_n 0, 1) := dk_get dk_d05_590 4 rfl
theorem dX12_door_52 : decode cX12_door 52 = .ok (.getfield 110, 3) := dk_get dk_d05_590 5 rfl
theorem dX12_door_55 : decode cX12_door 55 = .ok (.aload_n 0, 1) := dk_get dk_d05_590 6 rfl
theorem dX12_door_56 : decode cX12_door 56 = .ok (.getfield 482, 3) := dk_get dk_d05_590 7 rfl
theorem dX12_door_59 : decode cX12_door 59 = .ok (.iload_n 1, 1) := dk_get dk_d05_590 8 rfl
theorem dX12_door_60 : decode cX12_door 60 = .ok (.iastore, 1) := dk_get dk_d05_590 9 rfl
theorem dX12_door_61 : decode cX12_door 61 = .ok (.aload_n 0, 1) := dk_get dk_d05_590 10 rfl
theorem dX12_door_62 : decode cX12_door 62 = .ok (.getfield 113, 3) := dk_get dk_d05_590 11 rfl
theorem dX12_door_65 : decode cX12_door 65 = .ok (.aload_n 0, 1) := dk_get dk_d05_590 12 rfl
theorem dX12_door_66 : decode cX12_door 66 = .ok (.getfield 482, 3) := dk_get dk_d05_590 13 rfl
theorem dX12_door_69 : decode cX12_door 69 = .ok (.iload_n 2, 1) := dk_get dk_d05_590 14 rfl
theorem dX12_door_70 : decode cX12_door 70 = .ok (.iastore, 1) := dk_get dk_d05_590 15 rfl
theorem dX12_door_71 : decode cX12_door 71 = .ok (.aload_n 0, 1) := dk_get dk_d05_590 16 rfl
theorem dX12_door_72 : decode cX12_door 72 = .ok (.aload_n 0, 1) := dk_get dk_d05_590 17 rfl
theorem dX12_door_73 : decode cX12_door 73 = .ok (.getfield 482, 3) := dk_get dk_d05_590 18 rfl
theorem dX12_door_76 : decode cX12_door 76 = .ok (.iconst 1, 1) := dk_get dk_d05_590 19 rfl
theorem dX12_door_77 : decode cX12_door 77 = .ok (.iadd, 1) := dk_get dk_d05_590 20 rfl
theorem dX12_door_78 : decode cX12_door 78 = .ok (.putfield 482, 3) := dk_get dk_d05_590 21 rfl
theorem dX12_door_81 : decode cX12_door 81 = .ok (.aload_n 0, 1) := dk_get dk_d05_590 22 rfl
theorem dX12_door_82 : decode cX12_door 82 = .ok (.getfield 482, 3) := dk_get dk_d05_590 23 rfl
theorem dX12_door_85 : decode cX12_door 85 = .ok (.ireturn, 1) := dk_get dk_d05_590 24 rfl
theorem dk_d05_591 : dkc cX12_stack [(0, .aload_n 0, 1), (1, .iconst 0, 1), (2, .putfield 140, 3), (5, .iconst 0, 1), (6, .istore_n 1, 1), (7, .iconst 0, 1), (8, .istore_n 2, 1), (9, .iload_n 2, 1), (10, .iconst 1, 1), (11, .aload_n 0, 1), (12, .getfield 482, 3), (15, .ishl, 1), (16, .if_icmp .ge 156, 3), (19, .iconst 0, 1), (20, .istore_n 3, 1), (21, .iconst 0, 1), (22, .istore 4, 2), (24, .iload 4, 2), (26, .aload_n 0, 1), (27, .getfield 482, 3), (30, .if_icmp .ge 29, 3), (33, .aload_n 0, 1), (34, .iload_n 2, 1), (35, .iload 4, 2), (37, .invokevirtual 446, 3)] = true := by decide +kernel
theorem dX12_stack_0 : decode cX12_stack 0 = .ok (.aload_n 0, 1) := dk_get dk_d05_591 0 rfl
theorem dX12_stack_1 : decode cX12_stack 1 = .ok (.iconst 0, 1) := dk_get dk_d05_591 1 rfl
theorem dX12_stack_2 : decode cX12_stack 2 = .ok (.putfield 140, 3) := dk_get dk_d05_591 2 rfl
theorem dX12_stack_5 : decode cX12_stack 5 = .ok (.iconst 0, 1) := dk_get dk_d05_591 3 rfl
theorem dX12_stack_6 : decode cX12_stack 6 = .ok (.istore_n 1, 1) := dk_get dk_d05_591 4 rfl
theorem dX12_stack_7 : decode cX12_stack 7 = .ok (.iconst 0, 1) := dk_get dk_d05_591 5 rfl
theorem dX12_stack_8 : decode cX12_stack 8 = .ok (.istore_n 2, 1) := dk_get dk_d05_591 6 rfl
theorem dX12_stack_9 : decode cX12_stack 9 = .ok (.iload_n 2, 1) := dk_get dk_d05_591 7 rfl
theorem dX12_stack_10 : decode cX12_stack 10 = .ok (.iconst 1, 1) := dk_get dk_d05_591 8 rfl
theorem dX12_stack_11 : decode cX12_stack 11 = .ok (.aload_n 0, 1) := dk_get dk_d05_591 9 rfl
theorem dX12_stack_12 : decode cX12_stack 12 = .ok (.getfield 482, 3) := dk_get dk_d05_591 10 rfl
theorem dX12_stack_15 : decode cX12_stack 15 = .ok (.ishl, 1) := dk_get dk_d05_591 11 rfl
theorem dX12_stack_16 : decode cX12_stack 16 = .ok (.if_icmp .ge 156, 3) := dk_get dk_d05_591 12 rfl
theorem dX12_stack_19 : decode cX12_stack 19 = .ok (.iconst 0, 1) := dk_get dk_d05_591 13 rfl
theorem dX12_stack_20 : decode cX12_stack 20 = .ok (.istore_n 3, 1) := dk_get dk_d05_591 14 rfl
theorem dX12_stack_21 : decode cX12_stack 21 = .ok (.iconst 0, 1) := dk_get dk_d05_591 15 rfl
theorem dX12_stack_22 : decode cX12_stack 22 = .ok (.istore 4, 2) := dk_get dk_d05_591 16 rfl
theorem dX12_stack_24 : decode cX12_stack 24 = .ok (.iload 4, 2) := dk_get dk_d05_591 17 rfl
theorem dX12_stack_26 : decode cX12_stack 26 = .ok (.aload_n 0, 1) := dk_get dk_d05_591 18 rfl
theorem dX12_stack_27 : decode cX12_stack 27 = .ok (.getfield 482, 3) := dk_get dk_d05_591 19 rfl
theorem dX12_stack_30 : decode cX12_stack 30 = .ok (.if_icmp .ge 29, 3) := dk_get dk_d05_591 20 rfl
theorem dX12_stack_33 : decode cX12_stack 33 = .ok (.aload_n 0, 1) := dk_get dk_d05_591 21 rfl
theorem dX12_stack_34 : decode cX12_stack 34 = .ok (.iload_n 2, 1) := dk_get dk_d05_591 22 rfl
theorem dX12_stack_35 : decode cX12_stack 35 = .ok (.iload 4, 2) := dk_get dk_d05_591 23 rfl
theorem dX12_stack_37 : decode cX12_stack 37 = .ok (.invokevirtual 446, 3) := dk_get dk_d05_591 24 rfl
theorem dk_d05_592 : dkc cX12_stack [(40, .ifCond .eq 13, 3), (43, .iload_n 3, 1), (44, .aload_n 0, 1), (45, .getfield 110, 3), (48, .iload 4, 2), (50, .iaload, 1), (51, .iadd, 1), (52, .istore_n 3, 1), (53, .iinc 4 1, 3), (56, .goto (-32), 3), (59, .aload_n 0, 1), (60, .getfield 116, 3), (63, .iload_n 2, 1), (64, .iload_n 2, 1), (65, .ifCond .ne 7, 3), (68, .iconst 1, 1), (69, .goto 4, 3), (72, .iconst 0, 1), (73, .iastore, 1), (74, .iconst 0, 1), (75, .istore 4, 2), (77, .iload 4, 2), (79, .aload_n 0, 1), (80, .getfield 482, 3), (83, .if_icmp .ge 62, 3)] = true := by decide +kernel
theorem dX12_stack_40 : decode cX12_stack 40 = .ok (.ifCond .eq 13, 3) := dk_get dk_d05_592 0 rfl
theorem dX12_stack_43 : decode cX12_stack 43 = .ok (.iload_n 3, 1) := dk_get dk_d05_592 1 rfl
theorem dX12_stack_44 : decode cX12_stack 44 = .ok (.aload_n 0, 1) := dk_get dk_d05_592 2 rfl
theorem dX12_stack_45 : decode cX12_stack 45 = .ok (.getfield 110, 3) := dk_get dk_d05_592 3 rfl
theorem dX12_stack_48 : decode cX12_stack 48 = .ok (.iload 4, 2) := dk_get dk_d05_592 4 rfl
theorem dX12_stack_50 : decode cX12_stack 50 = .ok (.iaload, 1) := dk_get dk_d05_592 5 rfl
theorem dX12_stack_51 : decode cX12_stack 51 = .ok (.iadd, 1) := dk_get dk_d05_592 6 rfl
theorem dX12_stack_52 : decode cX12_stack 52 = .ok (.istore_n 3, 1) := dk_get dk_d05_592 7 rfl
theorem dX12_stack_53 : decode cX12_stack 53 = .ok (.iinc 4 1, 3) := dk_get dk_d05_592 8 rfl
theorem dX12_stack_56 : decode cX12_stack 56 = .ok (.goto (-32), 3) := dk_get dk_d05_592 9 rfl
theorem dX12_stack_59 : decode cX12_stack 59 = .ok (.aload_n 0, 1) := dk_get dk_d05_592 10 rfl
theorem dX12_stack_60 : decode cX12_stack 60 = .ok (.getfield 116, 3) := dk_get dk_d05_592 11 rfl
theorem dX12_stack_63 : decode cX12_stack 63 = .ok (.iload_n 2, 1) := dk_get dk_d05_592 12 rfl
theorem dX12_stack_64 : decode cX12_stack 64 = .ok (.iload_n 2, 1) := dk_get dk_d05_592 13 rfl
theorem dX12_stack_65 : decode cX12_stack 65 = .ok (.ifCond .ne 7, 3) := dk_get dk_d05_592 14 rfl
theorem dX12_stack_68 : decode cX12_stack 68 = .ok (.iconst 1, 1) := dk_get dk_d05_592 15 rfl
theorem dX12_stack_69 : decode cX12_stack 69 = .ok (.goto 4, 3) := dk_get dk_d05_592 16 rfl
theorem dX12_stack_72 : decode cX12_stack 72 = .ok (.iconst 0, 1) := dk_get dk_d05_592 17 rfl
theorem dX12_stack_73 : decode cX12_stack 73 = .ok (.iastore, 1) := dk_get dk_d05_592 18 rfl
theorem dX12_stack_74 : decode cX12_stack 74 = .ok (.iconst 0, 1) := dk_get dk_d05_592 19 rfl
theorem dX12_stack_75 : decode cX12_stack 75 = .ok (.istore 4, 2) := dk_get dk_d05_592 20 rfl
theorem dX12_stack_77 : decode cX12_stack 77 = .ok (.iload 4, 2) := dk_get dk_d05_592 21 rfl
theorem dX12_stack_79 : decode cX12_stack 79 = .ok (.aload_n 0, 1) := dk_get dk_d05_592 22 rfl
theorem dX12_stack_80 : decode cX12_stack 80 = .ok (.getfield 482, 3) := dk_get dk_d05_592 23 rfl
theorem dX12_stack_83 : decode cX12_stack 83 = .ok (.if_icmp .ge 62, 3) := dk_get dk_d05_592 24 rfl
theorem dk_d05_593 : dkc cX12_stack [(86, .aload_n 0, 1), (87, .iload_n 2, 1), (88, .iload 4, 2), (90, .invokevirtual 446, 3), (93, .ifCond .eq 46, 3), (96, .aload_n 0, 1), (97, .getfield 116, 3), (100, .iload_n 2, 1), (101, .iconst 1, 1), (102, .iload 4, 2), (104, .ishl, 1), (105, .iconst (-1), 1), (106, .ixor, 1), (107, .iand, 1), (108, .iaload, 1), (109, .iconst 1, 1), (110, .if_icmp .ne 29, 3), (113, .aload_n 0, 1), (114, .getfield 113, 3), (117, .iload 4, 2), (119, .iaload, 1), (120, .iload_n 3, 1), (121, .aload_n 0, 1), (122, .getfield 110, 3), (125, .iload 4, 2)] = true := by decide +kernel
theorem dX12_stack_86 : decode cX12_stack 86 = .ok (.aload_n 0, 1) := dk_get dk_d05_593 0 rfl
theorem dX12_stack_87 : decode cX12_stack 87 = .ok (.iload_n 2, 1) := dk_get dk_d05_593 1 rfl
theorem dX12_stack_88 : decode cX12_stack 88 = .ok (.iload 4, 2) := dk_get dk_d05_593 2 rfl
theorem dX12_stack_90 : decode cX12_stack 90 = .ok (.invokevirtual 446, 3) := dk_get dk_d05_593 3 rfl
theorem dX12_stack_93 : decode cX12_stack 93 = .ok (.ifCond .eq 46, 3) := dk_get dk_d05_593 4 rfl
theorem dX12_stack_96 : decode cX12_stack 96 = .ok (.aload_n 0, 1) := dk_get dk_d05_593 5 rfl
theorem dX12_stack_97 : decode cX12_stack 97 = .ok (.getfield 116, 3) := dk_get dk_d05_593 6 rfl
theorem dX12_stack_100 : decode cX12_stack 100 = .ok (.iload_n 2, 1) := dk_get dk_d05_593 7 rfl
theorem dX12_stack_101 : decode cX12_stack 101 = .ok (.iconst 1, 1) := dk_get dk_d05_593 8 rfl
theorem dX12_stack_102 : decode cX12_stack 102 = .ok (.iload 4, 2) := dk_get dk_d05_593 9 rfl
theorem dX12_stack_104 : decode cX12_stack 104 = .ok (.ishl, 1) := dk_get dk_d05_593 10 rfl
theorem dX12_stack_105 : decode cX12_stack 105 = .ok (.iconst (-1), 1) := dk_get dk_d05_593 11 rfl
theorem dX12_stack_106 : decode cX12_stack 106 = .ok (.ixor, 1) := dk_get dk_d05_593 12 rfl
theorem dX12_stack_107 : decode cX12_stack 107 = .ok (.iand, 1) := dk_get dk_d05_593 13 rfl
theorem dX12_stack_108 : decode cX12_stack 108 = .ok (.iaload, 1) := dk_get dk_d05_593 14 rfl
theorem dX12_stack_109 : decode cX12_stack 109 = .ok (.iconst 1, 1) := dk_get dk_d05_593 15 rfl
theorem dX12_stack_110 : decode cX12_stack 110 = .ok (.if_icmp .ne 29, 3) := dk_get dk_d05_593 16 rfl
theorem dX12_stack_113 : decode cX12_stack 113 = .ok (.aload_n 0, 1) := dk_get dk_d05_593 17 rfl
theorem dX12_stack_114 : decode cX12_stack 114 = .ok (.getfield 113, 3) := dk_get dk_d05_593 18 rfl
theorem dX12_stack_117 : decode cX12_stack 117 = .ok (.iload 4, 2) := dk_get dk_d05_593 19 rfl
theorem dX12_stack_119 : decode cX12_stack 119 = .ok (.iaload, 1) := dk_get dk_d05_593 20 rfl
theorem dX12_stack_120 : decode cX12_stack 120 = .ok (.iload_n 3, 1) := dk_get dk_d05_593 21 rfl
theorem dX12_stack_121 : decode cX12_stack 121 = .ok (.aload_n 0, 1) := dk_get dk_d05_593 22 rfl
theorem dX12_stack_122 : decode cX12_stack 122 = .ok (.getfield 110, 3) := dk_get dk_d05_593 23 rfl
theorem dX12_stack_125 : decode cX12_stack 125 = .ok (.iload 4, 2) := dk_get dk_d05_593 24 rfl
theorem dk_d05_594 : dkc cX12_stack [(127, .iaload, 1), (128, .isub, 1), (129, .if_icmp .lt 10, 3), (132, .aload_n 0, 1), (133, .getfield 116, 3), (136, .iload_n 2, 1), (137, .iconst 1, 1), (138, .iastore, 1), (139, .iinc 4 1, 3), (142, .goto (-65), 3), (145, .aload_n 0, 1), (146, .getfield 116, 3), (149, .iload_n 2, 1), (150, .iaload, 1), (151, .iconst 1, 1), (152, .if_icmp .ne 14, 3), (155, .aload_n 0, 1), (156, .iload_n 1, 1), (157, .aload_n 0, 1), (158, .iload_n 2, 1), (159, .invokevirtual 443, 3), (162, .invokevirtual 421, 3), (165, .istore_n 1, 1), (166, .iinc 2 1, 3), (169, .goto (-160), 3)] = true := by decide +kernel
theorem dX12_stack_127 : decode cX12_stack 127 = .ok (.iaload, 1) := dk_get dk_d05_594 0 rfl
theorem dX12_stack_128 : decode cX12_stack 128 = .ok (.isub, 1) := dk_get dk_d05_594 1 rfl
theorem dX12_stack_129 : decode cX12_stack 129 = .ok (.if_icmp .lt 10, 3) := dk_get dk_d05_594 2 rfl
theorem dX12_stack_132 : decode cX12_stack 132 = .ok (.aload_n 0, 1) := dk_get dk_d05_594 3 rfl
theorem dX12_stack_133 : decode cX12_stack 133 = .ok (.getfield 116, 3) := dk_get dk_d05_594 4 rfl
theorem dX12_stack_136 : decode cX12_stack 136 = .ok (.iload_n 2, 1) := dk_get dk_d05_594 5 rfl
theorem dX12_stack_137 : decode cX12_stack 137 = .ok (.iconst 1, 1) := dk_get dk_d05_594 6 rfl
theorem dX12_stack_138 : decode cX12_stack 138 = .ok (.iastore, 1) := dk_get dk_d05_594 7 rfl
theorem dX12_stack_139 : decode cX12_stack 139 = .ok (.iinc 4 1, 3) := dk_get dk_d05_594 8 rfl
theorem dX12_stack_142 : decode cX12_stack 142 = .ok (.goto (-65), 3) := dk_get dk_d05_594 9 rfl
theorem dX12_stack_145 : decode cX12_stack 145 = .ok (.aload_n 0, 1) := dk_get dk_d05_594 10 rfl
theorem dX12_stack_146 : decode cX12_stack 146 = .ok (.getfield 116, 3) := dk_get dk_d05_594 11 rfl
theorem dX12_stack_149 : decode cX12_stack 149 = .ok (.iload_n 2, 1) := dk_get dk_d05_594 12 rfl
theorem dX12_stack_150 : decode cX12_stack 150 = .ok (.iaload, 1) := dk_get dk_d05_594 13 rfl
theorem dX12_stack_151 : decode cX12_stack 151 = .ok (.iconst 1, 1) := dk_get dk_d05_594 14 rfl
theorem dX12_stack_152 : decode cX12_stack 152 = .ok (.if_icmp .ne 14, 3) := dk_get dk_d05_594 15 rfl
theorem dX12_stack_155 : decode cX12_stack 155 = .ok (.aload_n 0, 1) := dk_get dk_d05_594 16 rfl
theorem dX12_stack_156 : decode cX12_stack 156 = .ok (.iload_n 1, 1) := dk_get dk_d05_594 17 rfl
theorem dX12_stack_157 : decode cX12_stack 157 = .ok (.aload_n 0, 1) := dk_get dk_d05_594 18 rfl
theorem dX12_stack_158 : decode cX12_stack 158 = .ok (.iload_n 2, 1) := dk_get dk_d05_594 19 rfl
theorem dX12_stack_159 : decode cX12_stack 159 = .ok (.invokevirtual 443, 3) := dk_get dk_d05_594 20 rfl
theorem dX12_stack_162 : decode cX12_stack 162 = .ok (.invokevirtual 421, 3) := dk_get dk_d05_594 21 rfl
theorem dX12_stack_165 : decode cX12_stack 165 = .ok (.istore_n 1, 1) := dk_get dk_d05_594 22 rfl
theorem dX12_stack_166 : decode cX12_stack 166 = .ok (.iinc 2 1, 3) := dk_get dk_d05_594 23 rfl
theorem dX12_stack_169 : decode cX12_stack 169 = .ok (.goto (-160), 3) := dk_get dk_d05_594 24 rfl
theorem dk_d05_595 : dkc cX12_stack [(172, .iload_n 1, 1), (173, .ireturn, 1)] = true := by decide +kernel
theorem dX12_stack_172 : decode cX12_stack 172 = .ok (.iload_n 1, 1) := dk_get dk_d05_595 0 rfl
theorem dX12_stack_173 : decode cX12_stack 173 = .ok (.ireturn, 1) := dk_get dk_d05_595 1 rfl
theorem dk_d05_596 : dkc cX12_stands [(0, .aload_n 0, 1), (1, .iconst 0, 1), (2, .putfield 140, 3), (5, .iload_n 1, 1), (6, .iconst (-1), 1), (7, .if_icmp .ne 10, 3), (10, .aload_n 0, 1), (11, .iconst 0, 1), (12, .putfield 485, 3), (15, .iconst 0, 1), (16, .ireturn, 1), (17, .aload_n 0, 1), (18, .iload_n 1, 1), (19, .iconst 0, 1), (20, .bipush 30, 2), (22, .invokevirtual 155, 3), (25, .ifCond .eq 12, 3), (28, .aload_n 0, 1), (29, .getfield 485, 3), (32, .bipush 12, 2), (34, .if_icmp .ne 5, 3), (37, .iconst (-1), 1), (38, .ireturn, 1), (39, .aload_n 0, 1), (40, .getfield 119, 3)] = true := by decide +kernel
theorem dX12_stands_0 : decode cX12_stands 0 = .ok (.aload_n 0, 1) := dk_get dk_d05_596 0 rfl
theorem dX12_stands_1 : decode cX12_stands 1 = .ok (.iconst 0, 1) := dk_get dk_d05_596 1 rfl
theorem dX12_stands_2 : decode cX12_stands 2 = .ok (.putfield 140, 3) := dk_get dk_d05_596 2 rfl
theorem dX12_stands_5 : decode cX12_stands 5 = .ok (.iload_n 1, 1) := dk_get dk_d05_596 3 rfl
theorem dX12_stands_6 : decode cX12_stands 6 = .ok (.iconst (-1), 1) := dk_get dk_d05_596 4 rfl
theorem dX12_stands_7 : decode cX12_stands 7 = .ok (.if_icmp .ne 10, 3) := dk_get dk_d05_596 5 rfl
theorem dX12_stands_10 : decode cX12_stands 10 = .ok (.aload_n 0, 1) := dk_get dk_d05_596 6 rfl
theorem dX12_stands_11 : decode cX12_stands 11 = .ok (.iconst 0, 1) := dk_get dk_d05_596 7 rfl
theorem dX12_stands_12 : decode cX12_stands 12 = .ok (.putfield 485, 3) := dk_get dk_d05_596 8 rfl
theorem dX12_stands_15 : decode cX12_stands 15 = .ok (.iconst 0, 1) := dk_get dk_d05_596 9 rfl
theorem dX12_stands_16 : decode cX12_stands 16 = .ok (.ireturn, 1) := dk_get dk_d05_596 10 rfl
theorem dX12_stands_17 : decode cX12_stands 17 = .ok (.aload_n 0, 1) := dk_get dk_d05_596 11 rfl
theorem dX12_stands_18 : decode cX12_stands 18 = .ok (.iload_n 1, 1) := dk_get dk_d05_596 12 rfl
theorem dX12_stands_19 : decode cX12_stands 19 = .ok (.iconst 0, 1) := dk_get dk_d05_596 13 rfl
theorem dX12_stands_20 : decode cX12_stands 20 = .ok (.bipush 30, 2) := dk_get dk_d05_596 14 rfl
theorem dX12_stands_22 : decode cX12_stands 22 = .ok (.invokevirtual 155, 3) := dk_get dk_d05_596 15 rfl
theorem dX12_stands_25 : decode cX12_stands 25 = .ok (.ifCond .eq 12, 3) := dk_get dk_d05_596 16 rfl
theorem dX12_stands_28 : decode cX12_stands 28 = .ok (.aload_n 0, 1) := dk_get dk_d05_596 17 rfl
theorem dX12_stands_29 : decode cX12_stands 29 = .ok (.getfield 485, 3) := dk_get dk_d05_596 18 rfl
theorem dX12_stands_32 : decode cX12_stands 32 = .ok (.bipush 12, 2) := dk_get dk_d05_596 19 rfl
theorem dX12_stands_34 : decode cX12_stands 34 = .ok (.if_icmp .ne 5, 3) := dk_get dk_d05_596 20 rfl
theorem dX12_stands_37 : decode cX12_stands 37 = .ok (.iconst (-1), 1) := dk_get dk_d05_596 21 rfl
theorem dX12_stands_38 : decode cX12_stands 38 = .ok (.ireturn, 1) := dk_get dk_d05_596 22 rfl
theorem dX12_stands_39 : decode cX12_stands 39 = .ok (.aload_n 0, 1) := dk_get dk_d05_596 23 rfl
theorem dX12_stands_40 : decode cX12_stands 40 = .ok (.getfield 119, 3) := dk_get dk_d05_596 24 rfl
theorem dk_d05_597 : dkc cX12_stands [(43, .aload_n 0, 1), (44, .getfield 485, 3), (47, .iload_n 1, 1), (48, .iastore, 1), (49, .aload_n 0, 1), (50, .aload_n 0, 1), (51, .getfield 485, 3), (54, .iconst 1, 1), (55, .iadd, 1), (56, .putfield 485, 3), (59, .aload_n 0, 1), (60, .getfield 485, 3), (63, .ireturn, 1)] = true := by decide +kernel
theorem dX12_stands_43 : decode cX12_stands 43 = .ok (.aload_n 0, 1) := dk_get dk_d05_597 0 rfl
theorem dX12_stands_44 : decode cX12_stands 44 = .ok (.getfield 485, 3) := dk_get dk_d05_597 1 rfl
theorem dX12_stands_47 : decode cX12_stands 47 = .ok (.iload_n 1, 1) := dk_get dk_d05_597 2 rfl
theorem dX12_stands_48 : decode cX12_stands 48 = .ok (.iastore, 1) := dk_get dk_d05_597 3 rfl
theorem dX12_stands_49 : decode cX12_stands 49 = .ok (.aload_n 0, 1) := dk_get dk_d05_597 4 rfl
theorem dX12_stands_50 : decode cX12_stands 50 = .ok (.aload_n 0, 1) := dk_get dk_d05_597 5 rfl
theorem dX12_stands_51 : decode cX12_stands 51 = .ok (.getfield 485, 3) := dk_get dk_d05_597 6 rfl
theorem dX12_stands_54 : decode cX12_stands 54 = .ok (.iconst 1, 1) := dk_get dk_d05_597 7 rfl
theorem dX12_stands_55 : decode cX12_stands 55 = .ok (.iadd, 1) := dk_get dk_d05_597 8 rfl
theorem dX12_stands_56 : decode cX12_stands 56 = .ok (.putfield 485, 3) := dk_get dk_d05_597 9 rfl
theorem dX12_stands_59 : decode cX12_stands 59 = .ok (.aload_n 0, 1) := dk_get dk_d05_597 10 rfl
theorem dX12_stands_60 : decode cX12_stands 60 = .ok (.getfield 485, 3) := dk_get dk_d05_597 11 rfl
theorem dX12_stands_63 : decode cX12_stands 63 = .ok (.ireturn, 1) := dk_get dk_d05_597 12 rfl
theorem dk_d05_598 : dkc cX12_lantern [(0, .aload_n 0, 1), (1, .iconst 0, 1), (2, .putfield 140, 3), (5, .aload_n 0, 1), (6, .iload_n 1, 1), (7, .iconst 0, 1), (8, .bipush 40, 2), (10, .invokevirtual 155, 3), (13, .ifCond .eq 13, 3), (16, .aload_n 0, 1), (17, .iload_n 2, 1), (18, .iconst 0, 1), (19, .iconst 1, 1), (20, .invokevirtual 155, 3), (23, .ifCond .ne 5, 3), (26, .iconst (-1), 1), (27, .ireturn, 1), (28, .iconst 0, 1), (29, .istore_n 3, 1), (30, .iconst (-1), 1), (31, .istore 4, 2), (33, .iconst (-1), 1), (34, .istore 5, 2), (36, .iconst 0, 1), (37, .istore 6, 2)] = true := by decide +kernel
theorem dX12_lantern_0 : decode cX12_lantern 0 = .ok (.aload_n 0, 1) := dk_get dk_d05_598 0 rfl
theorem dX12_lantern_1 : decode cX12_lantern 1 = .ok (.iconst 0, 1) := dk_get dk_d05_598 1 rfl
theorem dX12_lantern_2 : decode cX12_lantern 2 = .ok (.putfield 140, 3) := dk_get dk_d05_598 2 rfl
theorem dX12_lantern_5 : decode cX12_lantern 5 = .ok (.aload_n 0, 1) := dk_get dk_d05_598 3 rfl
theorem dX12_lantern_6 : decode cX12_lantern 6 = .ok (.iload_n 1, 1) := dk_get dk_d05_598 4 rfl
theorem dX12_lantern_7 : decode cX12_lantern 7 = .ok (.iconst 0, 1) := dk_get dk_d05_598 5 rfl
theorem dX12_lantern_8 : decode cX12_lantern 8 = .ok (.bipush 40, 2) := dk_get dk_d05_598 6 rfl
theorem dX12_lantern_10 : decode cX12_lantern 10 = .ok (.invokevirtual 155, 3) := dk_get dk_d05_598 7 rfl
theorem dX12_lantern_13 : decode cX12_lantern 13 = .ok (.ifCond .eq 13, 3) := dk_get dk_d05_598 8 rfl
theorem dX12_lantern_16 : decode cX12_lantern 16 = .ok (.aload_n 0, 1) := dk_get dk_d05_598 9 rfl
theorem dX12_lantern_17 : decode cX12_lantern 17 = .ok (.iload_n 2, 1) := dk_get dk_d05_598 10 rfl
theorem dX12_lantern_18 : decode cX12_lantern 18 = .ok (.iconst 0, 1) := dk_get dk_d05_598 11 rfl
theorem dX12_lantern_19 : decode cX12_lantern 19 = .ok (.iconst 1, 1) := dk_get dk_d05_598 12 rfl
theorem dX12_lantern_20 : decode cX12_lantern 20 = .ok (.invokevirtual 155, 3) := dk_get dk_d05_598 13 rfl
theorem dX12_lantern_23 : decode cX12_lantern 23 = .ok (.ifCond .ne 5, 3) := dk_get dk_d05_598 14 rfl
theorem dX12_lantern_26 : decode cX12_lantern 26 = .ok (.iconst (-1), 1) := dk_get dk_d05_598 15 rfl
theorem dX12_lantern_27 : decode cX12_lantern 27 = .ok (.ireturn, 1) := dk_get dk_d05_598 16 rfl
theorem dX12_lantern_28 : decode cX12_lantern 28 = .ok (.iconst 0, 1) := dk_get dk_d05_598 17 rfl
theorem dX12_lantern_29 : decode cX12_lantern 29 = .ok (.istore_n 3, 1) := dk_get dk_d05_598 18 rfl
theorem dX12_lantern_30 : decode cX12_lantern 30 = .ok (.iconst (-1), 1) := dk_get dk_d05_598 19 rfl
theorem dX12_lantern_31 : decode cX12_lantern 31 = .ok (.istore 4, 2) := dk_get dk_d05_598 20 rfl
theorem dX12_lantern_33 : decode cX12_lantern 33 = .ok (.iconst (-1), 1) := dk_get dk_d05_598 21 rfl
theorem dX12_lantern_34 : decode cX12_lantern 34 = .ok (.istore 5, 2) := dk_get dk_d05_598 22 rfl
theorem dX12_lantern_36 : decode cX12_lantern 36 = .ok (.iconst 0, 1) := dk_get dk_d05_598 23 rfl
theorem dX12_lantern_37 : decode cX12_lantern 37 = .ok (.istore 6, 2) := dk_get dk_d05_598 24 rfl
theorem dk_d05_599 : dkc cX12_lantern [(39, .iload 6, 2), (41, .aload_n 0, 1), (42, .getfield 485, 3), (45, .if_icmp .ge 55, 3), (48, .aload_n 0, 1), (49, .getfield 119, 3), (52, .iload 6, 2), (54, .iaload, 1), (55, .iload 5, 2), (57, .if_icmp .le 22, 3), (60, .aload_n 0, 1), (61, .getfield 119, 3), (64, .iload 6, 2), (66, .iaload, 1), (67, .iload_n 1, 1), (68, .if_icmp .gt 11, 3), (71, .iload_n 3, 1), (72, .iconst 1, 1), (73, .iadd, 1), (74, .istore_n 3, 1), (75, .iload 6, 2), (77, .istore 4, 2), (79, .aload_n 0, 1), (80, .iload 5, 2), (82, .aload_n 0, 1)] = true := by decide +kernel
theorem dX12_lantern_39 : decode cX12_lantern 39 = .ok (.iload 6, 2) := dk_get dk_d05_599 0 rfl
theorem dX12_lantern_41 : decode cX12_lantern 41 = .ok (.aload_n 0, 1) := dk_get dk_d05_599 1 rfl
theorem dX12_lantern_42 : decode cX12_lantern 42 = .ok (.getfield 485, 3) := dk_get dk_d05_599 2 rfl
theorem dX12_lantern_45 : decode cX12_lantern 45 = .ok (.if_icmp .ge 55, 3) := dk_get dk_d05_599 3 rfl
theorem dX12_lantern_48 : decode cX12_lantern 48 = .ok (.aload_n 0, 1) := dk_get dk_d05_599 4 rfl
theorem dX12_lantern_49 : decode cX12_lantern 49 = .ok (.getfield 119, 3) := dk_get dk_d05_599 5 rfl
theorem dX12_lantern_52 : decode cX12_lantern 52 = .ok (.iload 6, 2) := dk_get dk_d05_599 6 rfl
theorem dX12_lantern_54 : decode cX12_lantern 54 = .ok (.iaload, 1) := dk_get dk_d05_599 7 rfl
theorem dX12_lantern_55 : decode cX12_lantern 55 = .ok (.iload 5, 2) := dk_get dk_d05_599 8 rfl
theorem dX12_lantern_57 : decode cX12_lantern 57 = .ok (.if_icmp .le 22, 3) := dk_get dk_d05_599 9 rfl
theorem dX12_lantern_60 : decode cX12_lantern 60 = .ok (.aload_n 0, 1) := dk_get dk_d05_599 10 rfl
theorem dX12_lantern_61 : decode cX12_lantern 61 = .ok (.getfield 119, 3) := dk_get dk_d05_599 11 rfl
theorem dX12_lantern_64 : decode cX12_lantern 64 = .ok (.iload 6, 2) := dk_get dk_d05_599 12 rfl
theorem dX12_lantern_66 : decode cX12_lantern 66 = .ok (.iaload, 1) := dk_get dk_d05_599 13 rfl
theorem dX12_lantern_67 : decode cX12_lantern 67 = .ok (.iload_n 1, 1) := dk_get dk_d05_599 14 rfl
theorem dX12_lantern_68 : decode cX12_lantern 68 = .ok (.if_icmp .gt 11, 3) := dk_get dk_d05_599 15 rfl
theorem dX12_lantern_71 : decode cX12_lantern 71 = .ok (.iload_n 3, 1) := dk_get dk_d05_599 16 rfl
theorem dX12_lantern_72 : decode cX12_lantern 72 = .ok (.iconst 1, 1) := dk_get dk_d05_599 17 rfl
theorem dX12_lantern_73 : decode cX12_lantern 73 = .ok (.iadd, 1) := dk_get dk_d05_599 18 rfl
theorem dX12_lantern_74 : decode cX12_lantern 74 = .ok (.istore_n 3, 1) := dk_get dk_d05_599 19 rfl
theorem dX12_lantern_75 : decode cX12_lantern 75 = .ok (.iload 6, 2) := dk_get dk_d05_599 20 rfl
theorem dX12_lantern_77 : decode cX12_lantern 77 = .ok (.istore 4, 2) := dk_get dk_d05_599 21 rfl
theorem dX12_lantern_79 : decode cX12_lantern 79 = .ok (.aload_n 0, 1) := dk_get dk_d05_599 22 rfl
theorem dX12_lantern_80 : decode cX12_lantern 80 = .ok (.iload 5, 2) := dk_get dk_d05_599 23 rfl
theorem dX12_lantern_82 : decode cX12_lantern 82 = .ok (.aload_n 0, 1) := dk_get dk_d05_599 24 rfl
theorem dk_d05_600 : dkc cX12_lantern [(83, .getfield 119, 3), (86, .iload 6, 2), (88, .iaload, 1), (89, .invokevirtual 421, 3), (92, .istore 5, 2), (94, .iinc 6 1, 3), (97, .goto (-58), 3), (100, .iload_n 2, 1), (101, .ifCond .ne 7, 3), (104, .iload_n 3, 1), (105, .goto 5, 3), (108, .iload 4, 2), (110, .ireturn, 1)] = true := by decide +kernel
theorem dX12_lantern_83 : decode cX12_lantern 83 = .ok (.getfield 119, 3) := dk_get dk_d05_600 0 rfl
theorem dX12_lantern_86 : decode cX12_lantern 86 = .ok (.iload 6, 2) := dk_get dk_d05_600 1 rfl
theorem dX12_lantern_88 : decode cX12_lantern 88 = .ok (.iaload, 1) := dk_get dk_d05_600 2 rfl
theorem dX12_lantern_89 : decode cX12_lantern 89 = .ok (.invokevirtual 421, 3) := dk_get dk_d05_600 3 rfl
theorem dX12_lantern_92 : decode cX12_lantern 92 = .ok (.istore 5, 2) := dk_get dk_d05_600 4 rfl
theorem dX12_lantern_94 : decode cX12_lantern 94 = .ok (.iinc 6 1, 3) := dk_get dk_d05_600 5 rfl
theorem dX12_lantern_97 : decode cX12_lantern 97 = .ok (.goto (-58), 3) := dk_get dk_d05_600 6 rfl
theorem dX12_lantern_100 : decode cX12_lantern 100 = .ok (.iload_n 2, 1) := dk_get dk_d05_600 7 rfl
theorem dX12_lantern_101 : decode cX12_lantern 101 = .ok (.ifCond .ne 7, 3) := dk_get dk_d05_600 8 rfl
theorem dX12_lantern_104 : decode cX12_lantern 104 = .ok (.iload_n 3, 1) := dk_get dk_d05_600 9 rfl
theorem dX12_lantern_105 : decode cX12_lantern 105 = .ok (.goto 5, 3) := dk_get dk_d05_600 10 rfl
theorem dX12_lantern_108 : decode cX12_lantern 108 = .ok (.iload 4, 2) := dk_get dk_d05_600 11 rfl
theorem dX12_lantern_110 : decode cX12_lantern 110 = .ok (.ireturn, 1) := dk_get dk_d05_600 12 rfl
theorem dk_d05_601 : dkc cX12_bill [(0, .aload_n 0, 1), (1, .iconst 0, 1), (2, .putfield 140, 3), (5, .iload_n 1, 1), (6, .iconst (-1), 1), (7, .if_icmp .ne 31, 3), (10, .aload_n 0, 1), (11, .iconst 0, 1), (12, .putfield 488, 3), (15, .iconst 0, 1), (16, .istore_n 3, 1), (17, .iload_n 3, 1), (18, .bipush 8, 2), (20, .if_icmp .ge 16, 3), (23, .aload_n 0, 1), (24, .getfield 122, 3), (27, .iload_n 3, 1), (28, .iconst 0, 1), (29, .iastore, 1), (30, .iinc 3 1, 3), (33, .goto (-16), 3), (36, .iconst 0, 1), (37, .ireturn, 1), (38, .aload_n 0, 1), (39, .iload_n 1, 1)] = true := by decide +kernel
theorem dX12_bill_0 : decode cX12_bill 0 = .ok (.aload_n 0, 1) := dk_get dk_d05_601 0 rfl
theorem dX12_bill_1 : decode cX12_bill 1 = .ok (.iconst 0, 1) := dk_get dk_d05_601 1 rfl
theorem dX12_bill_2 : decode cX12_bill 2 = .ok (.putfield 140, 3) := dk_get dk_d05_601 2 rfl
theorem dX12_bill_5 : decode cX12_bill 5 = .ok (.iload_n 1, 1) := dk_get dk_d05_601 3 rfl
theorem dX12_bill_6 : decode cX12_bill 6 = .ok (.iconst (-1), 1) := dk_get dk_d05_601 4 rfl
theorem dX12_bill_7 : decode cX12_bill 7 = .ok (.if_icmp .ne 31, 3) := dk_get dk_d05_601 5 rfl
theorem dX12_bill_10 : decode cX12_bill 10 = .ok (.aload_n 0, 1) := dk_get dk_d05_601 6 rfl
theorem dX12_bill_11 : decode cX12_bill 11 = .ok (.iconst 0, 1) := dk_get dk_d05_601 7 rfl
theorem dX12_bill_12 : decode cX12_bill 12 = .ok (.putfield 488, 3) := dk_get dk_d05_601 8 rfl
theorem dX12_bill_15 : decode cX12_bill 15 = .ok (.iconst 0, 1) := dk_get dk_d05_601 9 rfl
theorem dX12_bill_16 : decode cX12_bill 16 = .ok (.istore_n 3, 1) := dk_get dk_d05_601 10 rfl
theorem dX12_bill_17 : decode cX12_bill 17 = .ok (.iload_n 3, 1) := dk_get dk_d05_601 11 rfl
theorem dX12_bill_18 : decode cX12_bill 18 = .ok (.bipush 8, 2) := dk_get dk_d05_601 12 rfl
theorem dX12_bill_20 : decode cX12_bill 20 = .ok (.if_icmp .ge 16, 3) := dk_get dk_d05_601 13 rfl
theorem dX12_bill_23 : decode cX12_bill 23 = .ok (.aload_n 0, 1) := dk_get dk_d05_601 14 rfl
theorem dX12_bill_24 : decode cX12_bill 24 = .ok (.getfield 122, 3) := dk_get dk_d05_601 15 rfl
theorem dX12_bill_27 : decode cX12_bill 27 = .ok (.iload_n 3, 1) := dk_get dk_d05_601 16 rfl
theorem dX12_bill_28 : decode cX12_bill 28 = .ok (.iconst 0, 1) := dk_get dk_d05_601 17 rfl
theorem dX12_bill_29 : decode cX12_bill 29 = .ok (.iastore, 1) := dk_get dk_d05_601 18 rfl
theorem dX12_bill_30 : decode cX12_bill 30 = .ok (.iinc 3 1, 3) := dk_get dk_d05_601 19 rfl
theorem dX12_bill_33 : decode cX12_bill 33 = .ok (.goto (-16), 3) := dk_get dk_d05_601 20 rfl
theorem dX12_bill_36 : decode cX12_bill 36 = .ok (.iconst 0, 1) := dk_get dk_d05_601 21 rfl
theorem dX12_bill_37 : decode cX12_bill 37 = .ok (.ireturn, 1) := dk_get dk_d05_601 22 rfl
theorem dX12_bill_38 : decode cX12_bill 38 = .ok (.aload_n 0, 1) := dk_get dk_d05_601 23 rfl
theorem dX12_bill_39 : decode cX12_bill 39 = .ok (.iload_n 1, 1) := dk_get dk_d05_601 24 rfl
theorem dk_d05_602 : dkc cX12_bill [(40, .iconst 0, 1), (41, .bipush 7, 2), (43, .invokevirtual 155, 3), (46, .ifCond .eq 28, 3), (49, .aload_n 0, 1), (50, .iload_n 2, 1), (51, .iconst 0, 1), (52, .bipush 7, 2), (54, .invokevirtual 155, 3), (57, .ifCond .eq 17, 3), (60, .iload_n 1, 1), (61, .iload_n 2, 1), (62, .if_icmp .eq 12, 3), (65, .aload_n 0, 1), (66, .getfield 488, 3), (69, .bipush 12, 2), (71, .if_icmp .ne 5, 3), (74, .iconst (-1), 1), (75, .ireturn, 1), (76, .aload_n 0, 1), (77, .getfield 122, 3), (80, .iload_n 1, 1), (81, .aload_n 0, 1), (82, .getfield 122, 3), (85, .iload_n 1, 1)] = true := by decide +kernel
theorem dX12_bill_40 : decode cX12_bill 40 = .ok (.iconst 0, 1) := dk_get dk_d05_602 0 rfl
theorem dX12_bill_41 : decode cX12_bill 41 = .ok (.bipush 7, 2) := dk_get dk_d05_602 1 rfl
theorem dX12_bill_43 : decode cX12_bill 43 = .ok (.invokevirtual 155, 3) := dk_get dk_d05_602 2 rfl
theorem dX12_bill_46 : decode cX12_bill 46 = .ok (.ifCond .eq 28, 3) := dk_get dk_d05_602 3 rfl
theorem dX12_bill_49 : decode cX12_bill 49 = .ok (.aload_n 0, 1) := dk_get dk_d05_602 4 rfl
theorem dX12_bill_50 : decode cX12_bill 50 = .ok (.iload_n 2, 1) := dk_get dk_d05_602 5 rfl
theorem dX12_bill_51 : decode cX12_bill 51 = .ok (.iconst 0, 1) := dk_get dk_d05_602 6 rfl
theorem dX12_bill_52 : decode cX12_bill 52 = .ok (.bipush 7, 2) := dk_get dk_d05_602 7 rfl
theorem dX12_bill_54 : decode cX12_bill 54 = .ok (.invokevirtual 155, 3) := dk_get dk_d05_602 8 rfl
theorem dX12_bill_57 : decode cX12_bill 57 = .ok (.ifCond .eq 17, 3) := dk_get dk_d05_602 9 rfl
theorem dX12_bill_60 : decode cX12_bill 60 = .ok (.iload_n 1, 1) := dk_get dk_d05_602 10 rfl
theorem dX12_bill_61 : decode cX12_bill 61 = .ok (.iload_n 2, 1) := dk_get dk_d05_602 11 rfl
theorem dX12_bill_62 : decode cX12_bill 62 = .ok (.if_icmp .eq 12, 3) := dk_get dk_d05_602 12 rfl
theorem dX12_bill_65 : decode cX12_bill 65 = .ok (.aload_n 0, 1) := dk_get dk_d05_602 13 rfl
theorem dX12_bill_66 : decode cX12_bill 66 = .ok (.getfield 488, 3) := dk_get dk_d05_602 14 rfl
theorem dX12_bill_69 : decode cX12_bill 69 = .ok (.bipush 12, 2) := dk_get dk_d05_602 15 rfl
theorem dX12_bill_71 : decode cX12_bill 71 = .ok (.if_icmp .ne 5, 3) := dk_get dk_d05_602 16 rfl
theorem dX12_bill_74 : decode cX12_bill 74 = .ok (.iconst (-1), 1) := dk_get dk_d05_602 17 rfl
theorem dX12_bill_75 : decode cX12_bill 75 = .ok (.ireturn, 1) := dk_get dk_d05_602 18 rfl
theorem dX12_bill_76 : decode cX12_bill 76 = .ok (.aload_n 0, 1) := dk_get dk_d05_602 19 rfl
theorem dX12_bill_77 : decode cX12_bill 77 = .ok (.getfield 122, 3) := dk_get dk_d05_602 20 rfl
theorem dX12_bill_80 : decode cX12_bill 80 = .ok (.iload_n 1, 1) := dk_get dk_d05_602 21 rfl
theorem dX12_bill_81 : decode cX12_bill 81 = .ok (.aload_n 0, 1) := dk_get dk_d05_602 22 rfl
theorem dX12_bill_82 : decode cX12_bill 82 = .ok (.getfield 122, 3) := dk_get dk_d05_602 23 rfl
theorem dX12_bill_85 : decode cX12_bill 85 = .ok (.iload_n 1, 1) := dk_get dk_d05_602 24 rfl
theorem dk_d05_603 : dkc cX12_bill [(86, .iaload, 1), (87, .iconst 1, 1), (88, .iload_n 2, 1), (89, .ishl, 1), (90, .ior, 1), (91, .iastore, 1), (92, .aload_n 0, 1), (93, .getfield 122, 3), (96, .iload_n 2, 1), (97, .aload_n 0, 1), (98, .getfield 122, 3), (101, .iload_n 2, 1), (102, .iaload, 1), (103, .iconst 1, 1), (104, .iload_n 1, 1), (105, .ishl, 1), (106, .ior, 1), (107, .iastore, 1), (108, .aload_n 0, 1), (109, .aload_n 0, 1), (110, .getfield 488, 3), (113, .iconst 1, 1), (114, .iadd, 1), (115, .putfield 488, 3), (118, .aload_n 0, 1)] = true := by decide +kernel
theorem dX12_bill_86 : decode cX12_bill 86 = .ok (.iaload, 1) := dk_get dk_d05_603 0 rfl
theorem dX12_bill_87 : decode cX12_bill 87 = .ok (.iconst 1, 1) := dk_get dk_d05_603 1 rfl
theorem dX12_bill_88 : decode cX12_bill 88 = .ok (.iload_n 2, 1) := dk_get dk_d05_603 2 rfl
theorem dX12_bill_89 : decode cX12_bill 89 = .ok (.ishl, 1) := dk_get dk_d05_603 3 rfl
theorem dX12_bill_90 : decode cX12_bill 90 = .ok (.ior, 1) := dk_get dk_d05_603 4 rfl
theorem dX12_bill_91 : decode cX12_bill 91 = .ok (.iastore, 1) := dk_get dk_d05_603 5 rfl
theorem dX12_bill_92 : decode cX12_bill 92 = .ok (.aload_n 0, 1) := dk_get dk_d05_603 6 rfl
theorem dX12_bill_93 : decode cX12_bill 93 = .ok (.getfield 122, 3) := dk_get dk_d05_603 7 rfl
theorem dX12_bill_96 : decode cX12_bill 96 = .ok (.iload_n 2, 1) := dk_get dk_d05_603 8 rfl
theorem dX12_bill_97 : decode cX12_bill 97 = .ok (.aload_n 0, 1) := dk_get dk_d05_603 9 rfl
theorem dX12_bill_98 : decode cX12_bill 98 = .ok (.getfield 122, 3) := dk_get dk_d05_603 10 rfl
theorem dX12_bill_101 : decode cX12_bill 101 = .ok (.iload_n 2, 1) := dk_get dk_d05_603 11 rfl
theorem dX12_bill_102 : decode cX12_bill 102 = .ok (.iaload, 1) := dk_get dk_d05_603 12 rfl
theorem dX12_bill_103 : decode cX12_bill 103 = .ok (.iconst 1, 1) := dk_get dk_d05_603 13 rfl
theorem dX12_bill_104 : decode cX12_bill 104 = .ok (.iload_n 1, 1) := dk_get dk_d05_603 14 rfl
theorem dX12_bill_105 : decode cX12_bill 105 = .ok (.ishl, 1) := dk_get dk_d05_603 15 rfl
theorem dX12_bill_106 : decode cX12_bill 106 = .ok (.ior, 1) := dk_get dk_d05_603 16 rfl
theorem dX12_bill_107 : decode cX12_bill 107 = .ok (.iastore, 1) := dk_get dk_d05_603 17 rfl
theorem dX12_bill_108 : decode cX12_bill 108 = .ok (.aload_n 0, 1) := dk_get dk_d05_603 18 rfl
theorem dX12_bill_109 : decode cX12_bill 109 = .ok (.aload_n 0, 1) := dk_get dk_d05_603 19 rfl
theorem dX12_bill_110 : decode cX12_bill 110 = .ok (.getfield 488, 3) := dk_get dk_d05_603 20 rfl
theorem dX12_bill_113 : decode cX12_bill 113 = .ok (.iconst 1, 1) := dk_get dk_d05_603 21 rfl
theorem dX12_bill_114 : decode cX12_bill 114 = .ok (.iadd, 1) := dk_get dk_d05_603 22 rfl
theorem dX12_bill_115 : decode cX12_bill 115 = .ok (.putfield 488, 3) := dk_get dk_d05_603 23 rfl
theorem dX12_bill_118 : decode cX12_bill 118 = .ok (.aload_n 0, 1) := dk_get dk_d05_603 24 rfl
theorem dk_d05_604 : dkc cX12_bill [(119, .getfield 488, 3), (122, .ireturn, 1)] = true := by decide +kernel
theorem dX12_bill_119 : decode cX12_bill 119 = .ok (.getfield 488, 3) := dk_get dk_d05_604 0 rfl
theorem dX12_bill_122 : decode cX12_bill 122 = .ok (.ireturn, 1) := dk_get dk_d05_604 1 rfl
theorem dk_d05_605 : dkc cX12_doGoTogether [(0, .iconst 0, 1), (1, .istore_n 2, 1), (2, .iload_n 2, 1), (3, .bipush 8, 2), (5, .if_icmp .ge 31, 3), (8, .aload_n 0, 1), (9, .iload_n 1, 1), (10, .iload_n 2, 1), (11, .invokevirtual 446, 3), (14, .ifCond .eq 16, 3), (17, .aload_n 0, 1), (18, .getfield 122, 3), (21, .iload_n 2, 1), (22, .iaload, 1), (23, .iload_n 1, 1), (24, .iand, 1), (25, .ifCond .eq 5, 3), (28, .iconst 0, 1), (29, .ireturn, 1), (30, .iinc 2 1, 3), (33, .goto (-31), 3), (36, .iconst 1, 1), (37, .ireturn, 1)] = true := by decide +kernel
theorem dX12_doGoTogether_0 : decode cX12_doGoTogether 0 = .ok (.iconst 0, 1) := dk_get dk_d05_605 0 rfl
theorem dX12_doGoTogether_1 : decode cX12_doGoTogether 1 = .ok (.istore_n 2, 1) := dk_get dk_d05_605 1 rfl
theorem dX12_doGoTogether_2 : decode cX12_doGoTogether 2 = .ok (.iload_n 2, 1) := dk_get dk_d05_605 2 rfl
theorem dX12_doGoTogether_3 : decode cX12_doGoTogether 3 = .ok (.bipush 8, 2) := dk_get dk_d05_605 3 rfl
theorem dX12_doGoTogether_5 : decode cX12_doGoTogether 5 = .ok (.if_icmp .ge 31, 3) := dk_get dk_d05_605 4 rfl
theorem dX12_doGoTogether_8 : decode cX12_doGoTogether 8 = .ok (.aload_n 0, 1) := dk_get dk_d05_605 5 rfl
theorem dX12_doGoTogether_9 : decode cX12_doGoTogether 9 = .ok (.iload_n 1, 1) := dk_get dk_d05_605 6 rfl
theorem dX12_doGoTogether_10 : decode cX12_doGoTogether 10 = .ok (.iload_n 2, 1) := dk_get dk_d05_605 7 rfl
theorem dX12_doGoTogether_11 : decode cX12_doGoTogether 11 = .ok (.invokevirtual 446, 3) := dk_get dk_d05_605 8 rfl
theorem dX12_doGoTogether_14 : decode cX12_doGoTogether 14 = .ok (.ifCond .eq 16, 3) := dk_get dk_d05_605 9 rfl
theorem dX12_doGoTogether_17 : decode cX12_doGoTogether 17 = .ok (.aload_n 0, 1) := dk_get dk_d05_605 10 rfl
theorem dX12_doGoTogether_18 : decode cX12_doGoTogether 18 = .ok (.getfield 122, 3) := dk_get dk_d05_605 11 rfl
theorem dX12_doGoTogether_21 : decode cX12_doGoTogether 21 = .ok (.iload_n 2, 1) := dk_get dk_d05_605 12 rfl
theorem dX12_doGoTogether_22 : decode cX12_doGoTogether 22 = .ok (.iaload, 1) := dk_get dk_d05_605 13 rfl
theorem dX12_doGoTogether_23 : decode cX12_doGoTogether 23 = .ok (.iload_n 1, 1) := dk_get dk_d05_605 14 rfl
theorem dX12_doGoTogether_24 : decode cX12_doGoTogether 24 = .ok (.iand, 1) := dk_get dk_d05_605 15 rfl
theorem dX12_doGoTogether_25 : decode cX12_doGoTogether 25 = .ok (.ifCond .eq 5, 3) := dk_get dk_d05_605 16 rfl
theorem dX12_doGoTogether_28 : decode cX12_doGoTogether 28 = .ok (.iconst 0, 1) := dk_get dk_d05_605 17 rfl
theorem dX12_doGoTogether_29 : decode cX12_doGoTogether 29 = .ok (.ireturn, 1) := dk_get dk_d05_605 18 rfl
theorem dX12_doGoTogether_30 : decode cX12_doGoTogether 30 = .ok (.iinc 2 1, 3) := dk_get dk_d05_605 19 rfl
theorem dX12_doGoTogether_33 : decode cX12_doGoTogether 33 = .ok (.goto (-31), 3) := dk_get dk_d05_605 20 rfl
theorem dX12_doGoTogether_36 : decode cX12_doGoTogether 36 = .ok (.iconst 1, 1) := dk_get dk_d05_605 21 rfl
theorem dX12_doGoTogether_37 : decode cX12_doGoTogether 37 = .ok (.ireturn, 1) := dk_get dk_d05_605 22 rfl
theorem dk_d05_606 : dkc cX12_bills [(0, .aload_n 0, 1), (1, .iconst 0, 1), (2, .putfield 140, 3), (5, .aload_n 0, 1), (6, .iload_n 1, 1), (7, .iconst 0, 1), (8, .iconst 2, 1), (9, .invokevirtual 155, 3), (12, .ifCond .ne 5, 3), (15, .iconst (-1), 1), (16, .ireturn, 1), (17, .iconst 0, 1), (18, .istore_n 2, 1), (19, .iconst 0, 1), (20, .istore_n 3, 1), (21, .iconst 0, 1), (22, .istore 4, 2), (24, .iload 4, 2), (26, .sipush 256, 3), (29, .if_icmp .ge 42, 3), (32, .aload_n 0, 1), (33, .iload 4, 2), (35, .invokevirtual 491, 3), (38, .ifCond .ne 6, 3), (41, .goto 24, 3)] = true := by decide +kernel
theorem dX12_bills_0 : decode cX12_bills 0 = .ok (.aload_n 0, 1) := dk_get dk_d05_606 0 rfl
theorem dX12_bills_1 : decode cX12_bills 1 = .ok (.iconst 0, 1) := dk_get dk_d05_606 1 rfl
theorem dX12_bills_2 : decode cX12_bills 2 = .ok (.putfield 140, 3) := dk_get dk_d05_606 2 rfl
theorem dX12_bills_5 : decode cX12_bills 5 = .ok (.aload_n 0, 1) := dk_get dk_d05_606 3 rfl
theorem dX12_bills_6 : decode cX12_bills 6 = .ok (.iload_n 1, 1) := dk_get dk_d05_606 4 rfl
theorem dX12_bills_7 : decode cX12_bills 7 = .ok (.iconst 0, 1) := dk_get dk_d05_606 5 rfl
theorem dX12_bills_8 : decode cX12_bills 8 = .ok (.iconst 2, 1) := dk_get dk_d05_606 6 rfl
theorem dX12_bills_9 : decode cX12_bills 9 = .ok (.invokevirtual 155, 3) := dk_get dk_d05_606 7 rfl
theorem dX12_bills_12 : decode cX12_bills 12 = .ok (.ifCond .ne 5, 3) := dk_get dk_d05_606 8 rfl
theorem dX12_bills_15 : decode cX12_bills 15 = .ok (.iconst (-1), 1) := dk_get dk_d05_606 9 rfl
theorem dX12_bills_16 : decode cX12_bills 16 = .ok (.ireturn, 1) := dk_get dk_d05_606 10 rfl
theorem dX12_bills_17 : decode cX12_bills 17 = .ok (.iconst 0, 1) := dk_get dk_d05_606 11 rfl
theorem dX12_bills_18 : decode cX12_bills 18 = .ok (.istore_n 2, 1) := dk_get dk_d05_606 12 rfl
theorem dX12_bills_19 : decode cX12_bills 19 = .ok (.iconst 0, 1) := dk_get dk_d05_606 13 rfl
theorem dX12_bills_20 : decode cX12_bills 20 = .ok (.istore_n 3, 1) := dk_get dk_d05_606 14 rfl
theorem dX12_bills_21 : decode cX12_bills 21 = .ok (.iconst 0, 1) := dk_get dk_d05_606 15 rfl
theorem dX12_bills_22 : decode cX12_bills 22 = .ok (.istore 4, 2) := dk_get dk_d05_606 16 rfl
theorem dX12_bills_24 : decode cX12_bills 24 = .ok (.iload 4, 2) := dk_get dk_d05_606 17 rfl
theorem dX12_bills_26 : decode cX12_bills 26 = .ok (.sipush 256, 3) := dk_get dk_d05_606 18 rfl
theorem dX12_bills_29 : decode cX12_bills 29 = .ok (.if_icmp .ge 42, 3) := dk_get dk_d05_606 19 rfl
theorem dX12_bills_32 : decode cX12_bills 32 = .ok (.aload_n 0, 1) := dk_get dk_d05_606 20 rfl
theorem dX12_bills_33 : decode cX12_bills 33 = .ok (.iload 4, 2) := dk_get dk_d05_606 21 rfl
theorem dX12_bills_35 : decode cX12_bills 35 = .ok (.invokevirtual 491, 3) := dk_get dk_d05_606 22 rfl
theorem dX12_bills_38 : decode cX12_bills 38 = .ok (.ifCond .ne 6, 3) := dk_get dk_d05_606 23 rfl
theorem dX12_bills_41 : decode cX12_bills 41 = .ok (.goto 24, 3) := dk_get dk_d05_606 24 rfl
theorem dk_d05_607 : dkc cX12_bills [(44, .iload_n 3, 1), (45, .iconst 1, 1), (46, .iadd, 1), (47, .istore_n 3, 1), (48, .aload_n 0, 1), (49, .iload 4, 2), (51, .invokevirtual 443, 3), (54, .aload_n 0, 1), (55, .iload_n 2, 1), (56, .invokevirtual 443, 3), (59, .if_icmp .le 6, 3), (62, .iload 4, 2), (64, .istore_n 2, 1), (65, .iinc 4 1, 3), (68, .goto (-44), 3), (71, .iload_n 1, 1), (72, .iconst 2, 1), (73, .if_icmp .ne 7, 3), (76, .iload_n 3, 1), (77, .goto 17, 3), (80, .iload_n 1, 1), (81, .iconst 1, 1), (82, .if_icmp .ne 7, 3), (85, .iload_n 2, 1), (86, .goto 8, 3)] = true := by decide +kernel
theorem dX12_bills_44 : decode cX12_bills 44 = .ok (.iload_n 3, 1) := dk_get dk_d05_607 0 rfl
theorem dX12_bills_45 : decode cX12_bills 45 = .ok (.iconst 1, 1) := dk_get dk_d05_607 1 rfl
theorem dX12_bills_46 : decode cX12_bills 46 = .ok (.iadd, 1) := dk_get dk_d05_607 2 rfl
theorem dX12_bills_47 : decode cX12_bills 47 = .ok (.istore_n 3, 1) := dk_get dk_d05_607 3 rfl
theorem dX12_bills_48 : decode cX12_bills 48 = .ok (.aload_n 0, 1) := dk_get dk_d05_607 4 rfl
theorem dX12_bills_49 : decode cX12_bills 49 = .ok (.iload 4, 2) := dk_get dk_d05_607 5 rfl
theorem dX12_bills_51 : decode cX12_bills 51 = .ok (.invokevirtual 443, 3) := dk_get dk_d05_607 6 rfl
theorem dX12_bills_54 : decode cX12_bills 54 = .ok (.aload_n 0, 1) := dk_get dk_d05_607 7 rfl
theorem dX12_bills_55 : decode cX12_bills 55 = .ok (.iload_n 2, 1) := dk_get dk_d05_607 8 rfl
theorem dX12_bills_56 : decode cX12_bills 56 = .ok (.invokevirtual 443, 3) := dk_get dk_d05_607 9 rfl
theorem dX12_bills_59 : decode cX12_bills 59 = .ok (.if_icmp .le 6, 3) := dk_get dk_d05_607 10 rfl
theorem dX12_bills_62 : decode cX12_bills 62 = .ok (.iload 4, 2) := dk_get dk_d05_607 11 rfl
theorem dX12_bills_64 : decode cX12_bills 64 = .ok (.istore_n 2, 1) := dk_get dk_d05_607 12 rfl
theorem dX12_bills_65 : decode cX12_bills 65 = .ok (.iinc 4 1, 3) := dk_get dk_d05_607 13 rfl
theorem dX12_bills_68 : decode cX12_bills 68 = .ok (.goto (-44), 3) := dk_get dk_d05_607 14 rfl
theorem dX12_bills_71 : decode cX12_bills 71 = .ok (.iload_n 1, 1) := dk_get dk_d05_607 15 rfl
theorem dX12_bills_72 : decode cX12_bills 72 = .ok (.iconst 2, 1) := dk_get dk_d05_607 16 rfl
theorem dX12_bills_73 : decode cX12_bills 73 = .ok (.if_icmp .ne 7, 3) := dk_get dk_d05_607 17 rfl
theorem dX12_bills_76 : decode cX12_bills 76 = .ok (.iload_n 3, 1) := dk_get dk_d05_607 18 rfl
theorem dX12_bills_77 : decode cX12_bills 77 = .ok (.goto 17, 3) := dk_get dk_d05_607 19 rfl
theorem dX12_bills_80 : decode cX12_bills 80 = .ok (.iload_n 1, 1) := dk_get dk_d05_607 20 rfl
theorem dX12_bills_81 : decode cX12_bills 81 = .ok (.iconst 1, 1) := dk_get dk_d05_607 21 rfl
theorem dX12_bills_82 : decode cX12_bills 82 = .ok (.if_icmp .ne 7, 3) := dk_get dk_d05_607 22 rfl
theorem dX12_bills_85 : decode cX12_bills 85 = .ok (.iload_n 2, 1) := dk_get dk_d05_607 23 rfl
theorem dX12_bills_86 : decode cX12_bills 86 = .ok (.goto 8, 3) := dk_get dk_d05_607 24 rfl
theorem dk_d05_608 : dkc cX12_bills [(89, .aload_n 0, 1), (90, .iload_n 2, 1), (91, .invokevirtual 443, 3), (94, .ireturn, 1)] = true := by decide +kernel
theorem dX12_bills_89 : decode cX12_bills 89 = .ok (.aload_n 0, 1) := dk_get dk_d05_608 0 rfl
theorem dX12_bills_90 : decode cX12_bills 90 = .ok (.iload_n 2, 1) := dk_get dk_d05_608 1 rfl
theorem dX12_bills_91 : decode cX12_bills 91 = .ok (.invokevirtual 443, 3) := dk_get dk_d05_608 2 rfl
theorem dX12_bills_94 : decode cX12_bills 94 = .ok (.ireturn, 1) := dk_get dk_d05_608 3 rfl
theorem dk_d05_609 : dkc cX12_before [(0, .aload_n 0, 1), (1, .iconst 0, 1), (2, .putfield 140, 3), (5, .iload_n 1, 1), (6, .iconst (-1), 1), (7, .if_icmp .ne 31, 3), (10, .aload_n 0, 1), (11, .iconst 0, 1), (12, .putfield 494, 3), (15, .iconst 0, 1), (16, .istore_n 3, 1), (17, .iload_n 3, 1), (18, .bipush 8, 2), (20, .if_icmp .ge 16, 3), (23, .aload_n 0, 1), (24, .getfield 125, 3), (27, .iload_n 3, 1), (28, .iconst 0, 1), (29, .iastore, 1), (30, .iinc 3 1, 3), (33, .goto (-16), 3), (36, .iconst 0, 1), (37, .ireturn, 1), (38, .aload_n 0, 1), (39, .iload_n 1, 1)] = true := by decide +kernel
theorem dX12_before_0 : decode cX12_before 0 = .ok (.aload_n 0, 1) := dk_get dk_d05_609 0 rfl
theorem dX12_before_1 : decode cX12_before 1 = .ok (.iconst 0, 1) := dk_get dk_d05_609 1 rfl
theorem dX12_before_2 : decode cX12_before 2 = .ok (.putfield 140, 3) := dk_get dk_d05_609 2 rfl
theorem dX12_before_5 : decode cX12_before 5 = .ok (.iload_n 1, 1) := dk_get dk_d05_609 3 rfl
theorem dX12_before_6 : decode cX12_before 6 = .ok (.iconst (-1), 1) := dk_get dk_d05_609 4 rfl
theorem dX12_before_7 : decode cX12_before 7 = .ok (.if_icmp .ne 31, 3) := dk_get dk_d05_609 5 rfl
theorem dX12_before_10 : decode cX12_before 10 = .ok (.aload_n 0, 1) := dk_get dk_d05_609 6 rfl
theorem dX12_before_11 : decode cX12_before 11 = .ok (.iconst 0, 1) := dk_get dk_d05_609 7 rfl
theorem dX12_before_12 : decode cX12_before 12 = .ok (.putfield 494, 3) := dk_get dk_d05_609 8 rfl
theorem dX12_before_15 : decode cX12_before 15 = .ok (.iconst 0, 1) := dk_get dk_d05_609 9 rfl
theorem dX12_before_16 : decode cX12_before 16 = .ok (.istore_n 3, 1) := dk_get dk_d05_609 10 rfl
theorem dX12_before_17 : decode cX12_before 17 = .ok (.iload_n 3, 1) := dk_get dk_d05_609 11 rfl
theorem dX12_before_18 : decode cX12_before 18 = .ok (.bipush 8, 2) := dk_get dk_d05_609 12 rfl
theorem dX12_before_20 : decode cX12_before 20 = .ok (.if_icmp .ge 16, 3) := dk_get dk_d05_609 13 rfl
theorem dX12_before_23 : decode cX12_before 23 = .ok (.aload_n 0, 1) := dk_get dk_d05_609 14 rfl
theorem dX12_before_24 : decode cX12_before 24 = .ok (.getfield 125, 3) := dk_get dk_d05_609 15 rfl
theorem dX12_before_27 : decode cX12_before 27 = .ok (.iload_n 3, 1) := dk_get dk_d05_609 16 rfl
theorem dX12_before_28 : decode cX12_before 28 = .ok (.iconst 0, 1) := dk_get dk_d05_609 17 rfl
theorem dX12_before_29 : decode cX12_before 29 = .ok (.iastore, 1) := dk_get dk_d05_609 18 rfl
theorem dX12_before_30 : decode cX12_before 30 = .ok (.iinc 3 1, 3) := dk_get dk_d05_609 19 rfl
theorem dX12_before_33 : decode cX12_before 33 = .ok (.goto (-16), 3) := dk_get dk_d05_609 20 rfl
theorem dX12_before_36 : decode cX12_before 36 = .ok (.iconst 0, 1) := dk_get dk_d05_609 21 rfl
theorem dX12_before_37 : decode cX12_before 37 = .ok (.ireturn, 1) := dk_get dk_d05_609 22 rfl
theorem dX12_before_38 : decode cX12_before 38 = .ok (.aload_n 0, 1) := dk_get dk_d05_609 23 rfl
theorem dX12_before_39 : decode cX12_before 39 = .ok (.iload_n 1, 1) := dk_get dk_d05_609 24 rfl
theorem dk_d05_610 : dkc cX12_before [(40, .iconst 0, 1), (41, .bipush 7, 2), (43, .invokevirtual 155, 3), (46, .ifCond .eq 28, 3), (49, .aload_n 0, 1), (50, .iload_n 2, 1), (51, .iconst 0, 1), (52, .bipush 7, 2), (54, .invokevirtual 155, 3), (57, .ifCond .eq 17, 3), (60, .iload_n 1, 1), (61, .iload_n 2, 1), (62, .if_icmp .eq 12, 3), (65, .aload_n 0, 1), (66, .getfield 494, 3), (69, .bipush 12, 2), (71, .if_icmp .ne 5, 3), (74, .iconst (-1), 1), (75, .ireturn, 1), (76, .aload_n 0, 1), (77, .getfield 125, 3), (80, .iload_n 2, 1), (81, .aload_n 0, 1), (82, .getfield 125, 3), (85, .iload_n 2, 1)] = true := by decide +kernel
theorem dX12_before_40 : decode cX12_before 40 = .ok (.iconst 0, 1) := dk_get dk_d05_610 0 rfl
theorem dX12_before_41 : decode cX12_before 41 = .ok (.bipush 7, 2) := dk_get dk_d05_610 1 rfl
theorem dX12_before_43 : decode cX12_before 43 = .ok (.invokevirtual 155, 3) := dk_get dk_d05_610 2 rfl
theorem dX12_before_46 : decode cX12_before 46 = .ok (.ifCond .eq 28, 3) := dk_get dk_d05_610 3 rfl
theorem dX12_before_49 : decode cX12_before 49 = .ok (.aload_n 0, 1) := dk_get dk_d05_610 4 rfl
theorem dX12_before_50 : decode cX12_before 50 = .ok (.iload_n 2, 1) := dk_get dk_d05_610 5 rfl
theorem dX12_before_51 : decode cX12_before 51 = .ok (.iconst 0, 1) := dk_get dk_d05_610 6 rfl
theorem dX12_before_52 : decode cX12_before 52 = .ok (.bipush 7, 2) := dk_get dk_d05_610 7 rfl
theorem dX12_before_54 : decode cX12_before 54 = .ok (.invokevirtual 155, 3) := dk_get dk_d05_610 8 rfl
theorem dX12_before_57 : decode cX12_before 57 = .ok (.ifCond .eq 17, 3) := dk_get dk_d05_610 9 rfl
theorem dX12_before_60 : decode cX12_before 60 = .ok (.iload_n 1, 1) := dk_get dk_d05_610 10 rfl
theorem dX12_before_61 : decode cX12_before 61 = .ok (.iload_n 2, 1) := dk_get dk_d05_610 11 rfl
theorem dX12_before_62 : decode cX12_before 62 = .ok (.if_icmp .eq 12, 3) := dk_get dk_d05_610 12 rfl
theorem dX12_before_65 : decode cX12_before 65 = .ok (.aload_n 0, 1) := dk_get dk_d05_610 13 rfl
theorem dX12_before_66 : decode cX12_before 66 = .ok (.getfield 494, 3) := dk_get dk_d05_610 14 rfl
theorem dX12_before_69 : decode cX12_before 69 = .ok (.bipush 12, 2) := dk_get dk_d05_610 15 rfl
theorem dX12_before_71 : decode cX12_before 71 = .ok (.if_icmp .ne 5, 3) := dk_get dk_d05_610 16 rfl
theorem dX12_before_74 : decode cX12_before 74 = .ok (.iconst (-1), 1) := dk_get dk_d05_610 17 rfl
theorem dX12_before_75 : decode cX12_before 75 = .ok (.ireturn, 1) := dk_get dk_d05_610 18 rfl
theorem dX12_before_76 : decode cX12_before 76 = .ok (.aload_n 0, 1) := dk_get dk_d05_610 19 rfl
theorem dX12_before_77 : decode cX12_before 77 = .ok (.getfield 125, 3) := dk_get dk_d05_610 20 rfl
theorem dX12_before_80 : decode cX12_before 80 = .ok (.iload_n 2, 1) := dk_get dk_d05_610 21 rfl
theorem dX12_before_81 : decode cX12_before 81 = .ok (.aload_n 0, 1) := dk_get dk_d05_610 22 rfl
theorem dX12_before_82 : decode cX12_before 82 = .ok (.getfield 125, 3) := dk_get dk_d05_610 23 rfl
theorem dX12_before_85 : decode cX12_before 85 = .ok (.iload_n 2, 1) := dk_get dk_d05_610 24 rfl
theorem dk_d05_611 : dkc cX12_before [(86, .iaload, 1), (87, .iconst 1, 1), (88, .iload_n 1, 1), (89, .ishl, 1), (90, .ior, 1), (91, .iastore, 1), (92, .aload_n 0, 1), (93, .aload_n 0, 1), (94, .getfield 494, 3), (97, .iconst 1, 1), (98, .iadd, 1), (99, .putfield 494, 3), (102, .aload_n 0, 1), (103, .getfield 494, 3), (106, .ireturn, 1)] = true := by decide +kernel
theorem dX12_before_86 : decode cX12_before 86 = .ok (.iaload, 1) := dk_get dk_d05_611 0 rfl
theorem dX12_before_87 : decode cX12_before 87 = .ok (.iconst 1, 1) := dk_get dk_d05_611 1 rfl
theorem dX12_before_88 : decode cX12_before 88 = .ok (.iload_n 1, 1) := dk_get dk_d05_611 2 rfl
theorem dX12_before_89 : decode cX12_before 89 = .ok (.ishl, 1) := dk_get dk_d05_611 3 rfl
theorem dX12_before_90 : decode cX12_before 90 = .ok (.ior, 1) := dk_get dk_d05_611 4 rfl
theorem dX12_before_91 : decode cX12_before 91 = .ok (.iastore, 1) := dk_get dk_d05_611 5 rfl
theorem dX12_before_92 : decode cX12_before 92 = .ok (.aload_n 0, 1) := dk_get dk_d05_611 6 rfl
theorem dX12_before_93 : decode cX12_before 93 = .ok (.aload_n 0, 1) := dk_get dk_d05_611 7 rfl
theorem dX12_before_94 : decode cX12_before 94 = .ok (.getfield 494, 3) := dk_get dk_d05_611 8 rfl
theorem dX12_before_97 : decode cX12_before 97 = .ok (.iconst 1, 1) := dk_get dk_d05_611 9 rfl
theorem dX12_before_98 : decode cX12_before 98 = .ok (.iadd, 1) := dk_get dk_d05_611 10 rfl
theorem dX12_before_99 : decode cX12_before 99 = .ok (.putfield 494, 3) := dk_get dk_d05_611 11 rfl
theorem dX12_before_102 : decode cX12_before 102 = .ok (.aload_n 0, 1) := dk_get dk_d05_611 12 rfl
theorem dX12_before_103 : decode cX12_before 103 = .ok (.getfield 494, 3) := dk_get dk_d05_611 13 rfl
theorem dX12_before_106 : decode cX12_before 106 = .ok (.ireturn, 1) := dk_get dk_d05_611 14 rfl
theorem dk_d05_612 : dkc cX12_order [(0, .aload_n 0, 1), (1, .iconst 0, 1), (2, .putfield 140, 3), (5, .iconst 0, 1), (6, .istore_n 1, 1), (7, .iload_n 1, 1), (8, .sipush 256, 3), (11, .if_icmp .ge 91, 3), (14, .iload_n 1, 1), (15, .ifCond .ne 7, 3), (18, .iconst 1, 1), (19, .goto 4, 3), (22, .iconst 0, 1), (23, .istore_n 2, 1), (24, .iconst 0, 1), (25, .istore_n 3, 1), (26, .iload_n 3, 1), (27, .bipush 8, 2), (29, .if_icmp .ge 60, 3), (32, .aload_n 0, 1), (33, .iload_n 1, 1), (34, .iload_n 3, 1), (35, .invokevirtual 446, 3), (38, .ifCond .eq 45, 3), (41, .aload_n 0, 1)] = true := by decide +kernel
theorem dX12_order_0 : decode cX12_order 0 = .ok (.aload_n 0, 1) := dk_get dk_d05_612 0 rfl
theorem dX12_order_1 : decode cX12_order 1 = .ok (.iconst 0, 1) := dk_get dk_d05_612 1 rfl
theorem dX12_order_2 : decode cX12_order 2 = .ok (.putfield 140, 3) := dk_get dk_d05_612 2 rfl
theorem dX12_order_5 : decode cX12_order 5 = .ok (.iconst 0, 1) := dk_get dk_d05_612 3 rfl
theorem dX12_order_6 : decode cX12_order 6 = .ok (.istore_n 1, 1) := dk_get dk_d05_612 4 rfl
theorem dX12_order_7 : decode cX12_order 7 = .ok (.iload_n 1, 1) := dk_get dk_d05_612 5 rfl
theorem dX12_order_8 : decode cX12_order 8 = .ok (.sipush 256, 3) := dk_get dk_d05_612 6 rfl
theorem dX12_order_11 : decode cX12_order 11 = .ok (.if_icmp .ge 91, 3) := dk_get dk_d05_612 7 rfl
theorem dX12_order_14 : decode cX12_order 14 = .ok (.iload_n 1, 1) := dk_get dk_d05_612 8 rfl
theorem dX12_order_15 : decode cX12_order 15 = .ok (.ifCond .ne 7, 3) := dk_get dk_d05_612 9 rfl
theorem dX12_order_18 : decode cX12_order 18 = .ok (.iconst 1, 1) := dk_get dk_d05_612 10 rfl
theorem dX12_order_19 : decode cX12_order 19 = .ok (.goto 4, 3) := dk_get dk_d05_612 11 rfl
theorem dX12_order_22 : decode cX12_order 22 = .ok (.iconst 0, 1) := dk_get dk_d05_612 12 rfl
theorem dX12_order_23 : decode cX12_order 23 = .ok (.istore_n 2, 1) := dk_get dk_d05_612 13 rfl
theorem dX12_order_24 : decode cX12_order 24 = .ok (.iconst 0, 1) := dk_get dk_d05_612 14 rfl
theorem dX12_order_25 : decode cX12_order 25 = .ok (.istore_n 3, 1) := dk_get dk_d05_612 15 rfl
theorem dX12_order_26 : decode cX12_order 26 = .ok (.iload_n 3, 1) := dk_get dk_d05_612 16 rfl
theorem dX12_order_27 : decode cX12_order 27 = .ok (.bipush 8, 2) := dk_get dk_d05_612 17 rfl
theorem dX12_order_29 : decode cX12_order 29 = .ok (.if_icmp .ge 60, 3) := dk_get dk_d05_612 18 rfl
theorem dX12_order_32 : decode cX12_order 32 = .ok (.aload_n 0, 1) := dk_get dk_d05_612 19 rfl
theorem dX12_order_33 : decode cX12_order 33 = .ok (.iload_n 1, 1) := dk_get dk_d05_612 20 rfl
theorem dX12_order_34 : decode cX12_order 34 = .ok (.iload_n 3, 1) := dk_get dk_d05_612 21 rfl
theorem dX12_order_35 : decode cX12_order 35 = .ok (.invokevirtual 446, 3) := dk_get dk_d05_612 22 rfl
theorem dX12_order_38 : decode cX12_order 38 = .ok (.ifCond .eq 45, 3) := dk_get dk_d05_612 23 rfl
theorem dX12_order_41 : decode cX12_order 41 = .ok (.aload_n 0, 1) := dk_get dk_d05_612 24 rfl
theorem dk_d05_613 : dkc cX12_order [(42, .getfield 125, 3), (45, .iload_n 3, 1), (46, .iaload, 1), (47, .iload_n 1, 1)] = true := by decide +kernel
theorem dX12_order_42 : decode cX12_order 42 = .ok (.getfield 125, 3) := dk_get dk_d05_613 0 rfl
theorem dX12_order_45 : decode cX12_order 45 = .ok (.iload_n 3, 1) := dk_get dk_d05_613 1 rfl
theorem dX12_order_46 : decode cX12_order 46 = .ok (.iaload, 1) := dk_get dk_d05_613 2 rfl
theorem dX12_order_47 : decode cX12_order 47 = .ok (.iload_n 1, 1) := dk_get dk_d05_613 3 rfl

theorem dk_d06_614 : dkc cX12_order [(48, .iconst (-1), 1), (49, .ixor, 1), (50, .iand, 1), (51, .ifCond .ne 32, 3), (54, .aload_n 0, 1), (55, .aload_n 0, 1), (56, .getfield 125, 3), (59, .iload_n 3, 1), (60, .iaload, 1), (61, .iload_n 3, 1), (62, .invokevirtual 446, 3), (65, .ifCond .ne 18, 3), (68, .iload_n 2, 1), (69, .aload_n 0, 1), (70, .getfield 128, 3), (73, .iload_n 1, 1), (74, .iconst 1, 1), (75, .iload_n 3, 1), (76, .ishl, 1), (77, .iconst (-1), 1), (78, .ixor, 1), (79, .iand, 1), (80, .iaload, 1), (81, .iadd, 1), (82, .istore_n 2, 1)] = true := by decide +kernel
theorem dX12_order_48 : decode cX12_order 48 = .ok (.iconst (-1), 1) := dk_get dk_d06_614 0 rfl
theorem dX12_order_49 : decode cX12_order 49 = .ok (.ixor, 1) := dk_get dk_d06_614 1 rfl
theorem dX12_order_50 : decode cX12_order 50 = .ok (.iand, 1) := dk_get dk_d06_614 2 rfl
theorem dX12_order_51 : decode cX12_order 51 = .ok (.ifCond .ne 32, 3) := dk_get dk_d06_614 3 rfl
theorem dX12_order_54 : decode cX12_order 54 = .ok (.aload_n 0, 1) := dk_get dk_d06_614 4 rfl
theorem dX12_order_55 : decode cX12_order 55 = .ok (.aload_n 0, 1) := dk_get dk_d06_614 5 rfl
theorem dX12_order_56 : decode cX12_order 56 = .ok (.getfield 125, 3) := dk_get dk_d06_614 6 rfl
theorem dX12_order_59 : decode cX12_order 59 = .ok (.iload_n 3, 1) := dk_get dk_d06_614 7 rfl
theorem dX12_order_60 : decode cX12_order 60 = .ok (.iaload, 1) := dk_get dk_d06_614 8 rfl
theorem dX12_order_61 : decode cX12_order 61 = .ok (.iload_n 3, 1) := dk_get dk_d06_614 9 rfl
theorem dX12_order_62 : decode cX12_order 62 = .ok (.invokevirtual 446, 3) := dk_get dk_d06_614 10 rfl
theorem dX12_order_65 : decode cX12_order 65 = .ok (.ifCond .ne 18, 3) := dk_get dk_d06_614 11 rfl
theorem dX12_order_68 : decode cX12_order 68 = .ok (.iload_n 2, 1) := dk_get dk_d06_614 12 rfl
theorem dX12_order_69 : decode cX12_order 69 = .ok (.aload_n 0, 1) := dk_get dk_d06_614 13 rfl
theorem dX12_order_70 : decode cX12_order 70 = .ok (.getfield 128, 3) := dk_get dk_d06_614 14 rfl
theorem dX12_order_73 : decode cX12_order 73 = .ok (.iload_n 1, 1) := dk_get dk_d06_614 15 rfl
theorem dX12_order_74 : decode cX12_order 74 = .ok (.iconst 1, 1) := dk_get dk_d06_614 16 rfl
theorem dX12_order_75 : decode cX12_order 75 = .ok (.iload_n 3, 1) := dk_get dk_d06_614 17 rfl
theorem dX12_order_76 : decode cX12_order 76 = .ok (.ishl, 1) := dk_get dk_d06_614 18 rfl
theorem dX12_order_77 : decode cX12_order 77 = .ok (.iconst (-1), 1) := dk_get dk_d06_614 19 rfl
theorem dX12_order_78 : decode cX12_order 78 = .ok (.ixor, 1) := dk_get dk_d06_614 20 rfl
theorem dX12_order_79 : decode cX12_order 79 = .ok (.iand, 1) := dk_get dk_d06_614 21 rfl
theorem dX12_order_80 : decode cX12_order 80 = .ok (.iaload, 1) := dk_get dk_d06_614 22 rfl
theorem dX12_order_81 : decode cX12_order 81 = .ok (.iadd, 1) := dk_get dk_d06_614 23 rfl
theorem dX12_order_82 : decode cX12_order 82 = .ok (.istore_n 2, 1) := dk_get dk_d06_614 24 rfl
theorem dk_d06_615 : dkc cX12_order [(83, .iinc 3 1, 3), (86, .goto (-60), 3), (89, .aload_n 0, 1), (90, .getfield 128, 3), (93, .iload_n 1, 1), (94, .iload_n 2, 1), (95, .iastore, 1), (96, .iinc 1 1, 3), (99, .goto (-92), 3), (102, .aload_n 0, 1), (103, .getfield 128, 3), (106, .sipush 255, 3), (109, .iaload, 1), (110, .ireturn, 1)] = true := by decide +kernel
theorem dX12_order_83 : decode cX12_order 83 = .ok (.iinc 3 1, 3) := dk_get dk_d06_615 0 rfl
theorem dX12_order_86 : decode cX12_order 86 = .ok (.goto (-60), 3) := dk_get dk_d06_615 1 rfl
theorem dX12_order_89 : decode cX12_order 89 = .ok (.aload_n 0, 1) := dk_get dk_d06_615 2 rfl
theorem dX12_order_90 : decode cX12_order 90 = .ok (.getfield 128, 3) := dk_get dk_d06_615 3 rfl
theorem dX12_order_93 : decode cX12_order 93 = .ok (.iload_n 1, 1) := dk_get dk_d06_615 4 rfl
theorem dX12_order_94 : decode cX12_order 94 = .ok (.iload_n 2, 1) := dk_get dk_d06_615 5 rfl
theorem dX12_order_95 : decode cX12_order 95 = .ok (.iastore, 1) := dk_get dk_d06_615 6 rfl
theorem dX12_order_96 : decode cX12_order 96 = .ok (.iinc 1 1, 3) := dk_get dk_d06_615 7 rfl
theorem dX12_order_99 : decode cX12_order 99 = .ok (.goto (-92), 3) := dk_get dk_d06_615 8 rfl
theorem dX12_order_102 : decode cX12_order 102 = .ok (.aload_n 0, 1) := dk_get dk_d06_615 9 rfl
theorem dX12_order_103 : decode cX12_order 103 = .ok (.getfield 128, 3) := dk_get dk_d06_615 10 rfl
theorem dX12_order_106 : decode cX12_order 106 = .ok (.sipush 255, 3) := dk_get dk_d06_615 11 rfl
theorem dX12_order_109 : decode cX12_order 109 = .ok (.iaload, 1) := dk_get dk_d06_615 12 rfl
theorem dX12_order_110 : decode cX12_order 110 = .ok (.ireturn, 1) := dk_get dk_d06_615 13 rfl
theorem dk_d06_616 : dkc cX12_takesNine [(0, .iload_n 1, 1), (1, .istore_n 3, 1), (2, .aload_n 0, 1), (3, .iconst 0, 1), (4, .putfield 497, 3), (7, .aload_n 0, 1), (8, .iconst 0, 1), (9, .putfield 500, 3), (12, .bipush 8, 2), (14, .istore 4, 2), (16, .iload 4, 2), (18, .ifCond .lt 65, 3), (21, .aload_n 0, 1), (22, .getfield 134, 3), (25, .iload 4, 2), (27, .iload_n 3, 1), (28, .iload_n 2, 1), (29, .irem, 1), (30, .iastore, 1), (31, .iload_n 3, 1), (32, .iload_n 2, 1), (33, .idiv, 1), (34, .istore_n 3, 1), (35, .aload_n 0, 1), (36, .getfield 134, 3)] = true := by decide +kernel
theorem dX12_takesNine_0 : decode cX12_takesNine 0 = .ok (.iload_n 1, 1) := dk_get dk_d06_616 0 rfl
theorem dX12_takesNine_1 : decode cX12_takesNine 1 = .ok (.istore_n 3, 1) := dk_get dk_d06_616 1 rfl
theorem dX12_takesNine_2 : decode cX12_takesNine 2 = .ok (.aload_n 0, 1) := dk_get dk_d06_616 2 rfl
theorem dX12_takesNine_3 : decode cX12_takesNine 3 = .ok (.iconst 0, 1) := dk_get dk_d06_616 3 rfl
theorem dX12_takesNine_4 : decode cX12_takesNine 4 = .ok (.putfield 497, 3) := dk_get dk_d06_616 4 rfl
theorem dX12_takesNine_7 : decode cX12_takesNine 7 = .ok (.aload_n 0, 1) := dk_get dk_d06_616 5 rfl
theorem dX12_takesNine_8 : decode cX12_takesNine 8 = .ok (.iconst 0, 1) := dk_get dk_d06_616 6 rfl
theorem dX12_takesNine_9 : decode cX12_takesNine 9 = .ok (.putfield 500, 3) := dk_get dk_d06_616 7 rfl
theorem dX12_takesNine_12 : decode cX12_takesNine 12 = .ok (.bipush 8, 2) := dk_get dk_d06_616 8 rfl
theorem dX12_takesNine_14 : decode cX12_takesNine 14 = .ok (.istore 4, 2) := dk_get dk_d06_616 9 rfl
theorem dX12_takesNine_16 : decode cX12_takesNine 16 = .ok (.iload 4, 2) := dk_get dk_d06_616 10 rfl
theorem dX12_takesNine_18 : decode cX12_takesNine 18 = .ok (.ifCond .lt 65, 3) := dk_get dk_d06_616 11 rfl
theorem dX12_takesNine_21 : decode cX12_takesNine 21 = .ok (.aload_n 0, 1) := dk_get dk_d06_616 12 rfl
theorem dX12_takesNine_22 : decode cX12_takesNine 22 = .ok (.getfield 134, 3) := dk_get dk_d06_616 13 rfl
theorem dX12_takesNine_25 : decode cX12_takesNine 25 = .ok (.iload 4, 2) := dk_get dk_d06_616 14 rfl
theorem dX12_takesNine_27 : decode cX12_takesNine 27 = .ok (.iload_n 3, 1) := dk_get dk_d06_616 15 rfl
theorem dX12_takesNine_28 : decode cX12_takesNine 28 = .ok (.iload_n 2, 1) := dk_get dk_d06_616 16 rfl
theorem dX12_takesNine_29 : decode cX12_takesNine 29 = .ok (.irem, 1) := dk_get dk_d06_616 17 rfl
theorem dX12_takesNine_30 : decode cX12_takesNine 30 = .ok (.iastore, 1) := dk_get dk_d06_616 18 rfl
theorem dX12_takesNine_31 : decode cX12_takesNine 31 = .ok (.iload_n 3, 1) := dk_get dk_d06_616 19 rfl
theorem dX12_takesNine_32 : decode cX12_takesNine 32 = .ok (.iload_n 2, 1) := dk_get dk_d06_616 20 rfl
theorem dX12_takesNine_33 : decode cX12_takesNine 33 = .ok (.idiv, 1) := dk_get dk_d06_616 21 rfl
theorem dX12_takesNine_34 : decode cX12_takesNine 34 = .ok (.istore_n 3, 1) := dk_get dk_d06_616 22 rfl
theorem dX12_takesNine_35 : decode cX12_takesNine 35 = .ok (.aload_n 0, 1) := dk_get dk_d06_616 23 rfl
theorem dX12_takesNine_36 : decode cX12_takesNine 36 = .ok (.getfield 134, 3) := dk_get dk_d06_616 24 rfl
theorem dk_d06_617 : dkc cX12_takesNine [(39, .iload 4, 2), (41, .iaload, 1), (42, .iconst 1, 1), (43, .if_icmp .ne 13, 3), (46, .aload_n 0, 1), (47, .aload_n 0, 1), (48, .getfield 497, 3), (51, .iconst 1, 1), (52, .iadd, 1), (53, .putfield 497, 3), (56, .aload_n 0, 1), (57, .getfield 134, 3), (60, .iload 4, 2), (62, .iaload, 1), (63, .iconst 2, 1), (64, .if_icmp .ne 13, 3), (67, .aload_n 0, 1), (68, .aload_n 0, 1), (69, .getfield 500, 3), (72, .iconst 1, 1), (73, .iadd, 1), (74, .putfield 500, 3), (77, .iinc 4 (-1), 3), (80, .goto (-64), 3), (83, .return_, 1)] = true := by decide +kernel
theorem dX12_takesNine_39 : decode cX12_takesNine 39 = .ok (.iload 4, 2) := dk_get dk_d06_617 0 rfl
theorem dX12_takesNine_41 : decode cX12_takesNine 41 = .ok (.iaload, 1) := dk_get dk_d06_617 1 rfl
theorem dX12_takesNine_42 : decode cX12_takesNine 42 = .ok (.iconst 1, 1) := dk_get dk_d06_617 2 rfl
theorem dX12_takesNine_43 : decode cX12_takesNine 43 = .ok (.if_icmp .ne 13, 3) := dk_get dk_d06_617 3 rfl
theorem dX12_takesNine_46 : decode cX12_takesNine 46 = .ok (.aload_n 0, 1) := dk_get dk_d06_617 4 rfl
theorem dX12_takesNine_47 : decode cX12_takesNine 47 = .ok (.aload_n 0, 1) := dk_get dk_d06_617 5 rfl
theorem dX12_takesNine_48 : decode cX12_takesNine 48 = .ok (.getfield 497, 3) := dk_get dk_d06_617 6 rfl
theorem dX12_takesNine_51 : decode cX12_takesNine 51 = .ok (.iconst 1, 1) := dk_get dk_d06_617 7 rfl
theorem dX12_takesNine_52 : decode cX12_takesNine 52 = .ok (.iadd, 1) := dk_get dk_d06_617 8 rfl
theorem dX12_takesNine_53 : decode cX12_takesNine 53 = .ok (.putfield 497, 3) := dk_get dk_d06_617 9 rfl
theorem dX12_takesNine_56 : decode cX12_takesNine 56 = .ok (.aload_n 0, 1) := dk_get dk_d06_617 10 rfl
theorem dX12_takesNine_57 : decode cX12_takesNine 57 = .ok (.getfield 134, 3) := dk_get dk_d06_617 11 rfl
theorem dX12_takesNine_60 : decode cX12_takesNine 60 = .ok (.iload 4, 2) := dk_get dk_d06_617 12 rfl
theorem dX12_takesNine_62 : decode cX12_takesNine 62 = .ok (.iaload, 1) := dk_get dk_d06_617 13 rfl
theorem dX12_takesNine_63 : decode cX12_takesNine 63 = .ok (.iconst 2, 1) := dk_get dk_d06_617 14 rfl
theorem dX12_takesNine_64 : decode cX12_takesNine 64 = .ok (.if_icmp .ne 13, 3) := dk_get dk_d06_617 15 rfl
theorem dX12_takesNine_67 : decode cX12_takesNine 67 = .ok (.aload_n 0, 1) := dk_get dk_d06_617 16 rfl
theorem dX12_takesNine_68 : decode cX12_takesNine 68 = .ok (.aload_n 0, 1) := dk_get dk_d06_617 17 rfl
theorem dX12_takesNine_69 : decode cX12_takesNine 69 = .ok (.getfield 500, 3) := dk_get dk_d06_617 18 rfl
theorem dX12_takesNine_72 : decode cX12_takesNine 72 = .ok (.iconst 1, 1) := dk_get dk_d06_617 19 rfl
theorem dX12_takesNine_73 : decode cX12_takesNine 73 = .ok (.iadd, 1) := dk_get dk_d06_617 20 rfl
theorem dX12_takesNine_74 : decode cX12_takesNine 74 = .ok (.putfield 500, 3) := dk_get dk_d06_617 21 rfl
theorem dX12_takesNine_77 : decode cX12_takesNine 77 = .ok (.iinc 4 (-1), 3) := dk_get dk_d06_617 22 rfl
theorem dX12_takesNine_80 : decode cX12_takesNine 80 = .ok (.goto (-64), 3) := dk_get dk_d06_617 23 rfl
theorem dX12_takesNine_83 : decode cX12_takesNine 83 = .ok (.return_, 1) := dk_get dk_d06_617 24 rfl
theorem dk_d06_618 : dkc cX12_areThree [(0, .aload_n 0, 1), (1, .getfield 134, 3), (4, .iload_n 1, 1), (5, .iaload, 1), (6, .iload 4, 2), (8, .if_icmp .ne 29, 3), (11, .aload_n 0, 1), (12, .getfield 134, 3), (15, .iload_n 2, 1), (16, .iaload, 1), (17, .iload 4, 2), (19, .if_icmp .ne 18, 3), (22, .aload_n 0, 1), (23, .getfield 134, 3), (26, .iload_n 3, 1), (27, .iaload, 1), (28, .iload 4, 2), (30, .if_icmp .ne 7, 3), (33, .iconst 1, 1), (34, .goto 4, 3), (37, .iconst 0, 1), (38, .ireturn, 1)] = true := by decide +kernel
theorem dX12_areThree_0 : decode cX12_areThree 0 = .ok (.aload_n 0, 1) := dk_get dk_d06_618 0 rfl
theorem dX12_areThree_1 : decode cX12_areThree 1 = .ok (.getfield 134, 3) := dk_get dk_d06_618 1 rfl
theorem dX12_areThree_4 : decode cX12_areThree 4 = .ok (.iload_n 1, 1) := dk_get dk_d06_618 2 rfl
theorem dX12_areThree_5 : decode cX12_areThree 5 = .ok (.iaload, 1) := dk_get dk_d06_618 3 rfl
theorem dX12_areThree_6 : decode cX12_areThree 6 = .ok (.iload 4, 2) := dk_get dk_d06_618 4 rfl
theorem dX12_areThree_8 : decode cX12_areThree 8 = .ok (.if_icmp .ne 29, 3) := dk_get dk_d06_618 5 rfl
theorem dX12_areThree_11 : decode cX12_areThree 11 = .ok (.aload_n 0, 1) := dk_get dk_d06_618 6 rfl
theorem dX12_areThree_12 : decode cX12_areThree 12 = .ok (.getfield 134, 3) := dk_get dk_d06_618 7 rfl
theorem dX12_areThree_15 : decode cX12_areThree 15 = .ok (.iload_n 2, 1) := dk_get dk_d06_618 8 rfl
theorem dX12_areThree_16 : decode cX12_areThree 16 = .ok (.iaload, 1) := dk_get dk_d06_618 9 rfl
theorem dX12_areThree_17 : decode cX12_areThree 17 = .ok (.iload 4, 2) := dk_get dk_d06_618 10 rfl
theorem dX12_areThree_19 : decode cX12_areThree 19 = .ok (.if_icmp .ne 18, 3) := dk_get dk_d06_618 11 rfl
theorem dX12_areThree_22 : decode cX12_areThree 22 = .ok (.aload_n 0, 1) := dk_get dk_d06_618 12 rfl
theorem dX12_areThree_23 : decode cX12_areThree 23 = .ok (.getfield 134, 3) := dk_get dk_d06_618 13 rfl
theorem dX12_areThree_26 : decode cX12_areThree 26 = .ok (.iload_n 3, 1) := dk_get dk_d06_618 14 rfl
theorem dX12_areThree_27 : decode cX12_areThree 27 = .ok (.iaload, 1) := dk_get dk_d06_618 15 rfl
theorem dX12_areThree_28 : decode cX12_areThree 28 = .ok (.iload 4, 2) := dk_get dk_d06_618 16 rfl
theorem dX12_areThree_30 : decode cX12_areThree 30 = .ok (.if_icmp .ne 7, 3) := dk_get dk_d06_618 17 rfl
theorem dX12_areThree_33 : decode cX12_areThree 33 = .ok (.iconst 1, 1) := dk_get dk_d06_618 18 rfl
theorem dX12_areThree_34 : decode cX12_areThree 34 = .ok (.goto 4, 3) := dk_get dk_d06_618 19 rfl
theorem dX12_areThree_37 : decode cX12_areThree 37 = .ok (.iconst 0, 1) := dk_get dk_d06_618 20 rfl
theorem dX12_areThree_38 : decode cX12_areThree 38 = .ok (.ireturn, 1) := dk_get dk_d06_618 21 rfl
theorem dk_d06_619 : dkc cX12_hasThree [(0, .iconst 0, 1), (1, .istore_n 2, 1), (2, .iload_n 2, 1), (3, .iconst 3, 1), (4, .if_icmp .ge 48, 3), (7, .aload_n 0, 1), (8, .iconst 3, 1), (9, .iload_n 2, 1), (10, .imul, 1), (11, .iconst 3, 1), (12, .iload_n 2, 1), (13, .imul, 1), (14, .iconst 1, 1), (15, .iadd, 1), (16, .iconst 3, 1), (17, .iload_n 2, 1), (18, .imul, 1), (19, .iconst 2, 1), (20, .iadd, 1), (21, .iload_n 1, 1), (22, .invokevirtual 503, 3), (25, .ifCond .ne 19, 3), (28, .aload_n 0, 1), (29, .iload_n 2, 1), (30, .iload_n 2, 1)] = true := by decide +kernel
theorem dX12_hasThree_0 : decode cX12_hasThree 0 = .ok (.iconst 0, 1) := dk_get dk_d06_619 0 rfl
theorem dX12_hasThree_1 : decode cX12_hasThree 1 = .ok (.istore_n 2, 1) := dk_get dk_d06_619 1 rfl
theorem dX12_hasThree_2 : decode cX12_hasThree 2 = .ok (.iload_n 2, 1) := dk_get dk_d06_619 2 rfl
theorem dX12_hasThree_3 : decode cX12_hasThree 3 = .ok (.iconst 3, 1) := dk_get dk_d06_619 3 rfl
theorem dX12_hasThree_4 : decode cX12_hasThree 4 = .ok (.if_icmp .ge 48, 3) := dk_get dk_d06_619 4 rfl
theorem dX12_hasThree_7 : decode cX12_hasThree 7 = .ok (.aload_n 0, 1) := dk_get dk_d06_619 5 rfl
theorem dX12_hasThree_8 : decode cX12_hasThree 8 = .ok (.iconst 3, 1) := dk_get dk_d06_619 6 rfl
theorem dX12_hasThree_9 : decode cX12_hasThree 9 = .ok (.iload_n 2, 1) := dk_get dk_d06_619 7 rfl
theorem dX12_hasThree_10 : decode cX12_hasThree 10 = .ok (.imul, 1) := dk_get dk_d06_619 8 rfl
theorem dX12_hasThree_11 : decode cX12_hasThree 11 = .ok (.iconst 3, 1) := dk_get dk_d06_619 9 rfl
theorem dX12_hasThree_12 : decode cX12_hasThree 12 = .ok (.iload_n 2, 1) := dk_get dk_d06_619 10 rfl
theorem dX12_hasThree_13 : decode cX12_hasThree 13 = .ok (.imul, 1) := dk_get dk_d06_619 11 rfl
theorem dX12_hasThree_14 : decode cX12_hasThree 14 = .ok (.iconst 1, 1) := dk_get dk_d06_619 12 rfl
theorem dX12_hasThree_15 : decode cX12_hasThree 15 = .ok (.iadd, 1) := dk_get dk_d06_619 13 rfl
theorem dX12_hasThree_16 : decode cX12_hasThree 16 = .ok (.iconst 3, 1) := dk_get dk_d06_619 14 rfl
theorem dX12_hasThree_17 : decode cX12_hasThree 17 = .ok (.iload_n 2, 1) := dk_get dk_d06_619 15 rfl
theorem dX12_hasThree_18 : decode cX12_hasThree 18 = .ok (.imul, 1) := dk_get dk_d06_619 16 rfl
theorem dX12_hasThree_19 : decode cX12_hasThree 19 = .ok (.iconst 2, 1) := dk_get dk_d06_619 17 rfl
theorem dX12_hasThree_20 : decode cX12_hasThree 20 = .ok (.iadd, 1) := dk_get dk_d06_619 18 rfl
theorem dX12_hasThree_21 : decode cX12_hasThree 21 = .ok (.iload_n 1, 1) := dk_get dk_d06_619 19 rfl
theorem dX12_hasThree_22 : decode cX12_hasThree 22 = .ok (.invokevirtual 503, 3) := dk_get dk_d06_619 20 rfl
theorem dX12_hasThree_25 : decode cX12_hasThree 25 = .ok (.ifCond .ne 19, 3) := dk_get dk_d06_619 21 rfl
theorem dX12_hasThree_28 : decode cX12_hasThree 28 = .ok (.aload_n 0, 1) := dk_get dk_d06_619 22 rfl
theorem dX12_hasThree_29 : decode cX12_hasThree 29 = .ok (.iload_n 2, 1) := dk_get dk_d06_619 23 rfl
theorem dX12_hasThree_30 : decode cX12_hasThree 30 = .ok (.iload_n 2, 1) := dk_get dk_d06_619 24 rfl
theorem dk_d06_620 : dkc cX12_hasThree [(31, .iconst 3, 1), (32, .iadd, 1), (33, .iload_n 2, 1), (34, .bipush 6, 2), (36, .iadd, 1), (37, .iload_n 1, 1), (38, .invokevirtual 503, 3), (41, .ifCond .eq 5, 3), (44, .iconst 1, 1), (45, .ireturn, 1), (46, .iinc 2 1, 3), (49, .goto (-47), 3), (52, .aload_n 0, 1), (53, .iconst 0, 1), (54, .iconst 4, 1), (55, .bipush 8, 2), (57, .iload_n 1, 1), (58, .invokevirtual 503, 3), (61, .ifCond .ne 15, 3), (64, .aload_n 0, 1), (65, .iconst 2, 1), (66, .iconst 4, 1), (67, .bipush 6, 2), (69, .iload_n 1, 1), (70, .invokevirtual 503, 3)] = true := by decide +kernel
theorem dX12_hasThree_31 : decode cX12_hasThree 31 = .ok (.iconst 3, 1) := dk_get dk_d06_620 0 rfl
theorem dX12_hasThree_32 : decode cX12_hasThree 32 = .ok (.iadd, 1) := dk_get dk_d06_620 1 rfl
theorem dX12_hasThree_33 : decode cX12_hasThree 33 = .ok (.iload_n 2, 1) := dk_get dk_d06_620 2 rfl
theorem dX12_hasThree_34 : decode cX12_hasThree 34 = .ok (.bipush 6, 2) := dk_get dk_d06_620 3 rfl
theorem dX12_hasThree_36 : decode cX12_hasThree 36 = .ok (.iadd, 1) := dk_get dk_d06_620 4 rfl
theorem dX12_hasThree_37 : decode cX12_hasThree 37 = .ok (.iload_n 1, 1) := dk_get dk_d06_620 5 rfl
theorem dX12_hasThree_38 : decode cX12_hasThree 38 = .ok (.invokevirtual 503, 3) := dk_get dk_d06_620 6 rfl
theorem dX12_hasThree_41 : decode cX12_hasThree 41 = .ok (.ifCond .eq 5, 3) := dk_get dk_d06_620 7 rfl
theorem dX12_hasThree_44 : decode cX12_hasThree 44 = .ok (.iconst 1, 1) := dk_get dk_d06_620 8 rfl
theorem dX12_hasThree_45 : decode cX12_hasThree 45 = .ok (.ireturn, 1) := dk_get dk_d06_620 9 rfl
theorem dX12_hasThree_46 : decode cX12_hasThree 46 = .ok (.iinc 2 1, 3) := dk_get dk_d06_620 10 rfl
theorem dX12_hasThree_49 : decode cX12_hasThree 49 = .ok (.goto (-47), 3) := dk_get dk_d06_620 11 rfl
theorem dX12_hasThree_52 : decode cX12_hasThree 52 = .ok (.aload_n 0, 1) := dk_get dk_d06_620 12 rfl
theorem dX12_hasThree_53 : decode cX12_hasThree 53 = .ok (.iconst 0, 1) := dk_get dk_d06_620 13 rfl
theorem dX12_hasThree_54 : decode cX12_hasThree 54 = .ok (.iconst 4, 1) := dk_get dk_d06_620 14 rfl
theorem dX12_hasThree_55 : decode cX12_hasThree 55 = .ok (.bipush 8, 2) := dk_get dk_d06_620 15 rfl
theorem dX12_hasThree_57 : decode cX12_hasThree 57 = .ok (.iload_n 1, 1) := dk_get dk_d06_620 16 rfl
theorem dX12_hasThree_58 : decode cX12_hasThree 58 = .ok (.invokevirtual 503, 3) := dk_get dk_d06_620 17 rfl
theorem dX12_hasThree_61 : decode cX12_hasThree 61 = .ok (.ifCond .ne 15, 3) := dk_get dk_d06_620 18 rfl
theorem dX12_hasThree_64 : decode cX12_hasThree 64 = .ok (.aload_n 0, 1) := dk_get dk_d06_620 19 rfl
theorem dX12_hasThree_65 : decode cX12_hasThree 65 = .ok (.iconst 2, 1) := dk_get dk_d06_620 20 rfl
theorem dX12_hasThree_66 : decode cX12_hasThree 66 = .ok (.iconst 4, 1) := dk_get dk_d06_620 21 rfl
theorem dX12_hasThree_67 : decode cX12_hasThree 67 = .ok (.bipush 6, 2) := dk_get dk_d06_620 22 rfl
theorem dX12_hasThree_69 : decode cX12_hasThree 69 = .ok (.iload_n 1, 1) := dk_get dk_d06_620 23 rfl
theorem dX12_hasThree_70 : decode cX12_hasThree 70 = .ok (.invokevirtual 503, 3) := dk_get dk_d06_620 24 rfl
theorem dk_d06_621 : dkc cX12_hasThree [(73, .ifCond .eq 7, 3), (76, .iconst 1, 1), (77, .goto 4, 3), (80, .iconst 0, 1), (81, .ireturn, 1)] = true := by decide +kernel
theorem dX12_hasThree_73 : decode cX12_hasThree 73 = .ok (.ifCond .eq 7, 3) := dk_get dk_d06_621 0 rfl
theorem dX12_hasThree_76 : decode cX12_hasThree 76 = .ok (.iconst 1, 1) := dk_get dk_d06_621 1 rfl
theorem dX12_hasThree_77 : decode cX12_hasThree 77 = .ok (.goto 4, 3) := dk_get dk_d06_621 2 rfl
theorem dX12_hasThree_80 : decode cX12_hasThree 80 = .ok (.iconst 0, 1) := dk_get dk_d06_621 3 rfl
theorem dX12_hasThree_81 : decode cX12_hasThree 81 = .ok (.ireturn, 1) := dk_get dk_d06_621 4 rfl
theorem dk_d06_622 : dkc cX12_powerOf [(0, .iconst 1, 1), (1, .istore_n 2, 1), (2, .bipush 8, 2), (4, .istore_n 3, 1), (5, .iload_n 3, 1), (6, .iload_n 1, 1), (7, .if_icmp .le 13, 3), (10, .iload_n 2, 1), (11, .iconst 3, 1), (12, .imul, 1), (13, .istore_n 2, 1), (14, .iinc 3 (-1), 3), (17, .goto (-12), 3), (20, .iload_n 2, 1), (21, .ireturn, 1)] = true := by decide +kernel
theorem dX12_powerOf_0 : decode cX12_powerOf 0 = .ok (.iconst 1, 1) := dk_get dk_d06_622 0 rfl
theorem dX12_powerOf_1 : decode cX12_powerOf 1 = .ok (.istore_n 2, 1) := dk_get dk_d06_622 1 rfl
theorem dX12_powerOf_2 : decode cX12_powerOf 2 = .ok (.bipush 8, 2) := dk_get dk_d06_622 2 rfl
theorem dX12_powerOf_4 : decode cX12_powerOf 4 = .ok (.istore_n 3, 1) := dk_get dk_d06_622 3 rfl
theorem dX12_powerOf_5 : decode cX12_powerOf 5 = .ok (.iload_n 3, 1) := dk_get dk_d06_622 4 rfl
theorem dX12_powerOf_6 : decode cX12_powerOf 6 = .ok (.iload_n 1, 1) := dk_get dk_d06_622 5 rfl
theorem dX12_powerOf_7 : decode cX12_powerOf 7 = .ok (.if_icmp .le 13, 3) := dk_get dk_d06_622 6 rfl
theorem dX12_powerOf_10 : decode cX12_powerOf 10 = .ok (.iload_n 2, 1) := dk_get dk_d06_622 7 rfl
theorem dX12_powerOf_11 : decode cX12_powerOf 11 = .ok (.iconst 3, 1) := dk_get dk_d06_622 8 rfl
theorem dX12_powerOf_12 : decode cX12_powerOf 12 = .ok (.imul, 1) := dk_get dk_d06_622 9 rfl
theorem dX12_powerOf_13 : decode cX12_powerOf 13 = .ok (.istore_n 2, 1) := dk_get dk_d06_622 10 rfl
theorem dX12_powerOf_14 : decode cX12_powerOf 14 = .ok (.iinc 3 (-1), 3) := dk_get dk_d06_622 11 rfl
theorem dX12_powerOf_17 : decode cX12_powerOf 17 = .ok (.goto (-12), 3) := dk_get dk_d06_622 12 rfl
theorem dX12_powerOf_20 : decode cX12_powerOf 20 = .ok (.iload_n 2, 1) := dk_get dk_d06_622 13 rfl
theorem dX12_powerOf_21 : decode cX12_powerOf 21 = .ok (.ireturn, 1) := dk_get dk_d06_622 14 rfl
theorem dk_d06_623 : dkc cX12_nextUp [(0, .aload_n 0, 1), (1, .getfield 497, 3), (4, .aload_n 0, 1), (5, .getfield 500, 3), (8, .if_icmp .ne 7, 3), (11, .iconst 1, 1), (12, .goto 4, 3), (15, .iconst 2, 1), (16, .ireturn, 1)] = true := by decide +kernel
theorem dX12_nextUp_0 : decode cX12_nextUp 0 = .ok (.aload_n 0, 1) := dk_get dk_d06_623 0 rfl
theorem dX12_nextUp_1 : decode cX12_nextUp 1 = .ok (.getfield 497, 3) := dk_get dk_d06_623 1 rfl
theorem dX12_nextUp_4 : decode cX12_nextUp 4 = .ok (.aload_n 0, 1) := dk_get dk_d06_623 2 rfl
theorem dX12_nextUp_5 : decode cX12_nextUp 5 = .ok (.getfield 500, 3) := dk_get dk_d06_623 3 rfl
theorem dX12_nextUp_8 : decode cX12_nextUp 8 = .ok (.if_icmp .ne 7, 3) := dk_get dk_d06_623 4 rfl
theorem dX12_nextUp_11 : decode cX12_nextUp 11 = .ok (.iconst 1, 1) := dk_get dk_d06_623 5 rfl
theorem dX12_nextUp_12 : decode cX12_nextUp 12 = .ok (.goto 4, 3) := dk_get dk_d06_623 6 rfl
theorem dX12_nextUp_15 : decode cX12_nextUp 15 = .ok (.iconst 2, 1) := dk_get dk_d06_623 7 rfl
theorem dX12_nextUp_16 : decode cX12_nextUp 16 = .ok (.ireturn, 1) := dk_get dk_d06_623 8 rfl
theorem dk_d06_624 : dkc cX12_isOver [(0, .aload_n 0, 1), (1, .iconst 1, 1), (2, .invokevirtual 507, 3), (5, .ifCond .ne 25, 3), (8, .aload_n 0, 1), (9, .iconst 2, 1), (10, .invokevirtual 507, 3), (13, .ifCond .ne 17, 3), (16, .aload_n 0, 1), (17, .getfield 497, 3), (20, .aload_n 0, 1), (21, .getfield 500, 3), (24, .iadd, 1), (25, .bipush 9, 2), (27, .if_icmp .ne 7, 3), (30, .iconst 1, 1), (31, .goto 4, 3), (34, .iconst 0, 1), (35, .ireturn, 1)] = true := by decide +kernel
theorem dX12_isOver_0 : decode cX12_isOver 0 = .ok (.aload_n 0, 1) := dk_get dk_d06_624 0 rfl
theorem dX12_isOver_1 : decode cX12_isOver 1 = .ok (.iconst 1, 1) := dk_get dk_d06_624 1 rfl
theorem dX12_isOver_2 : decode cX12_isOver 2 = .ok (.invokevirtual 507, 3) := dk_get dk_d06_624 2 rfl
theorem dX12_isOver_5 : decode cX12_isOver 5 = .ok (.ifCond .ne 25, 3) := dk_get dk_d06_624 3 rfl
theorem dX12_isOver_8 : decode cX12_isOver 8 = .ok (.aload_n 0, 1) := dk_get dk_d06_624 4 rfl
theorem dX12_isOver_9 : decode cX12_isOver 9 = .ok (.iconst 2, 1) := dk_get dk_d06_624 5 rfl
theorem dX12_isOver_10 : decode cX12_isOver 10 = .ok (.invokevirtual 507, 3) := dk_get dk_d06_624 6 rfl
theorem dX12_isOver_13 : decode cX12_isOver 13 = .ok (.ifCond .ne 17, 3) := dk_get dk_d06_624 7 rfl
theorem dX12_isOver_16 : decode cX12_isOver 16 = .ok (.aload_n 0, 1) := dk_get dk_d06_624 8 rfl
theorem dX12_isOver_17 : decode cX12_isOver 17 = .ok (.getfield 497, 3) := dk_get dk_d06_624 9 rfl
theorem dX12_isOver_20 : decode cX12_isOver 20 = .ok (.aload_n 0, 1) := dk_get dk_d06_624 10 rfl
theorem dX12_isOver_21 : decode cX12_isOver 21 = .ok (.getfield 500, 3) := dk_get dk_d06_624 11 rfl
theorem dX12_isOver_24 : decode cX12_isOver 24 = .ok (.iadd, 1) := dk_get dk_d06_624 12 rfl
theorem dX12_isOver_25 : decode cX12_isOver 25 = .ok (.bipush 9, 2) := dk_get dk_d06_624 13 rfl
theorem dX12_isOver_27 : decode cX12_isOver 27 = .ok (.if_icmp .ne 7, 3) := dk_get dk_d06_624 14 rfl
theorem dX12_isOver_30 : decode cX12_isOver 30 = .ok (.iconst 1, 1) := dk_get dk_d06_624 15 rfl
theorem dX12_isOver_31 : decode cX12_isOver 31 = .ok (.goto 4, 3) := dk_get dk_d06_624 16 rfl
theorem dX12_isOver_34 : decode cX12_isOver 34 = .ok (.iconst 0, 1) := dk_get dk_d06_624 17 rfl
theorem dX12_isOver_35 : decode cX12_isOver 35 = .ok (.ireturn, 1) := dk_get dk_d06_624 18 rfl
theorem dk_d06_625 : dkc cX12_worthNow [(0, .aload_n 0, 1), (1, .invokevirtual 510, 3), (4, .istore_n 2, 1), (5, .aload_n 0, 1), (6, .iload_n 2, 1), (7, .invokevirtual 507, 3), (10, .ifCond .eq 5, 3), (13, .iconst 1, 1), (14, .ireturn, 1), (15, .aload_n 0, 1), (16, .iconst 3, 1), (17, .iload_n 2, 1), (18, .isub, 1), (19, .invokevirtual 507, 3), (22, .ifCond .eq 5, 3), (25, .iconst (-1), 1), (26, .ireturn, 1), (27, .aload_n 0, 1), (28, .getfield 497, 3), (31, .aload_n 0, 1), (32, .getfield 500, 3), (35, .iadd, 1), (36, .bipush 9, 2), (38, .if_icmp .ne 5, 3), (41, .iconst 0, 1)] = true := by decide +kernel
theorem dX12_worthNow_0 : decode cX12_worthNow 0 = .ok (.aload_n 0, 1) := dk_get dk_d06_625 0 rfl
theorem dX12_worthNow_1 : decode cX12_worthNow 1 = .ok (.invokevirtual 510, 3) := dk_get dk_d06_625 1 rfl
theorem dX12_worthNow_4 : decode cX12_worthNow 4 = .ok (.istore_n 2, 1) := dk_get dk_d06_625 2 rfl
theorem dX12_worthNow_5 : decode cX12_worthNow 5 = .ok (.aload_n 0, 1) := dk_get dk_d06_625 3 rfl
theorem dX12_worthNow_6 : decode cX12_worthNow 6 = .ok (.iload_n 2, 1) := dk_get dk_d06_625 4 rfl
theorem dX12_worthNow_7 : decode cX12_worthNow 7 = .ok (.invokevirtual 507, 3) := dk_get dk_d06_625 5 rfl
theorem dX12_worthNow_10 : decode cX12_worthNow 10 = .ok (.ifCond .eq 5, 3) := dk_get dk_d06_625 6 rfl
theorem dX12_worthNow_13 : decode cX12_worthNow 13 = .ok (.iconst 1, 1) := dk_get dk_d06_625 7 rfl
theorem dX12_worthNow_14 : decode cX12_worthNow 14 = .ok (.ireturn, 1) := dk_get dk_d06_625 8 rfl
theorem dX12_worthNow_15 : decode cX12_worthNow 15 = .ok (.aload_n 0, 1) := dk_get dk_d06_625 9 rfl
theorem dX12_worthNow_16 : decode cX12_worthNow 16 = .ok (.iconst 3, 1) := dk_get dk_d06_625 10 rfl
theorem dX12_worthNow_17 : decode cX12_worthNow 17 = .ok (.iload_n 2, 1) := dk_get dk_d06_625 11 rfl
theorem dX12_worthNow_18 : decode cX12_worthNow 18 = .ok (.isub, 1) := dk_get dk_d06_625 12 rfl
theorem dX12_worthNow_19 : decode cX12_worthNow 19 = .ok (.invokevirtual 507, 3) := dk_get dk_d06_625 13 rfl
theorem dX12_worthNow_22 : decode cX12_worthNow 22 = .ok (.ifCond .eq 5, 3) := dk_get dk_d06_625 14 rfl
theorem dX12_worthNow_25 : decode cX12_worthNow 25 = .ok (.iconst (-1), 1) := dk_get dk_d06_625 15 rfl
theorem dX12_worthNow_26 : decode cX12_worthNow 26 = .ok (.ireturn, 1) := dk_get dk_d06_625 16 rfl
theorem dX12_worthNow_27 : decode cX12_worthNow 27 = .ok (.aload_n 0, 1) := dk_get dk_d06_625 17 rfl
theorem dX12_worthNow_28 : decode cX12_worthNow 28 = .ok (.getfield 497, 3) := dk_get dk_d06_625 18 rfl
theorem dX12_worthNow_31 : decode cX12_worthNow 31 = .ok (.aload_n 0, 1) := dk_get dk_d06_625 19 rfl
theorem dX12_worthNow_32 : decode cX12_worthNow 32 = .ok (.getfield 500, 3) := dk_get dk_d06_625 20 rfl
theorem dX12_worthNow_35 : decode cX12_worthNow 35 = .ok (.iadd, 1) := dk_get dk_d06_625 21 rfl
theorem dX12_worthNow_36 : decode cX12_worthNow 36 = .ok (.bipush 9, 2) := dk_get dk_d06_625 22 rfl
theorem dX12_worthNow_38 : decode cX12_worthNow 38 = .ok (.if_icmp .ne 5, 3) := dk_get dk_d06_625 23 rfl
theorem dX12_worthNow_41 : decode cX12_worthNow 41 = .ok (.iconst 0, 1) := dk_get dk_d06_625 24 rfl
theorem dk_d06_626 : dkc cX12_worthNow [(42, .ireturn, 1), (43, .iconst (-1), 1), (44, .istore_n 3, 1), (45, .iconst 0, 1), (46, .istore 4, 2), (48, .iload 4, 2), (50, .bipush 9, 2), (52, .if_icmp .ge 41, 3), (55, .aload_n 0, 1), (56, .getfield 134, 3), (59, .iload 4, 2), (61, .iaload, 1), (62, .ifCond .ne 25, 3), (65, .aload_n 0, 1), (66, .iload_n 3, 1), (67, .aload_n 0, 1), (68, .getfield 131, 3), (71, .iload_n 1, 1), (72, .iload_n 2, 1), (73, .aload_n 0, 1), (74, .iload 4, 2), (76, .invokevirtual 513, 3), (79, .imul, 1), (80, .iadd, 1), (81, .iaload, 1)] = true := by decide +kernel
theorem dX12_worthNow_42 : decode cX12_worthNow 42 = .ok (.ireturn, 1) := dk_get dk_d06_626 0 rfl
theorem dX12_worthNow_43 : decode cX12_worthNow 43 = .ok (.iconst (-1), 1) := dk_get dk_d06_626 1 rfl
theorem dX12_worthNow_44 : decode cX12_worthNow 44 = .ok (.istore_n 3, 1) := dk_get dk_d06_626 2 rfl
theorem dX12_worthNow_45 : decode cX12_worthNow 45 = .ok (.iconst 0, 1) := dk_get dk_d06_626 3 rfl
theorem dX12_worthNow_46 : decode cX12_worthNow 46 = .ok (.istore 4, 2) := dk_get dk_d06_626 4 rfl
theorem dX12_worthNow_48 : decode cX12_worthNow 48 = .ok (.iload 4, 2) := dk_get dk_d06_626 5 rfl
theorem dX12_worthNow_50 : decode cX12_worthNow 50 = .ok (.bipush 9, 2) := dk_get dk_d06_626 6 rfl
theorem dX12_worthNow_52 : decode cX12_worthNow 52 = .ok (.if_icmp .ge 41, 3) := dk_get dk_d06_626 7 rfl
theorem dX12_worthNow_55 : decode cX12_worthNow 55 = .ok (.aload_n 0, 1) := dk_get dk_d06_626 8 rfl
theorem dX12_worthNow_56 : decode cX12_worthNow 56 = .ok (.getfield 134, 3) := dk_get dk_d06_626 9 rfl
theorem dX12_worthNow_59 : decode cX12_worthNow 59 = .ok (.iload 4, 2) := dk_get dk_d06_626 10 rfl
theorem dX12_worthNow_61 : decode cX12_worthNow 61 = .ok (.iaload, 1) := dk_get dk_d06_626 11 rfl
theorem dX12_worthNow_62 : decode cX12_worthNow 62 = .ok (.ifCond .ne 25, 3) := dk_get dk_d06_626 12 rfl
theorem dX12_worthNow_65 : decode cX12_worthNow 65 = .ok (.aload_n 0, 1) := dk_get dk_d06_626 13 rfl
theorem dX12_worthNow_66 : decode cX12_worthNow 66 = .ok (.iload_n 3, 1) := dk_get dk_d06_626 14 rfl
theorem dX12_worthNow_67 : decode cX12_worthNow 67 = .ok (.aload_n 0, 1) := dk_get dk_d06_626 15 rfl
theorem dX12_worthNow_68 : decode cX12_worthNow 68 = .ok (.getfield 131, 3) := dk_get dk_d06_626 16 rfl
theorem dX12_worthNow_71 : decode cX12_worthNow 71 = .ok (.iload_n 1, 1) := dk_get dk_d06_626 17 rfl
theorem dX12_worthNow_72 : decode cX12_worthNow 72 = .ok (.iload_n 2, 1) := dk_get dk_d06_626 18 rfl
theorem dX12_worthNow_73 : decode cX12_worthNow 73 = .ok (.aload_n 0, 1) := dk_get dk_d06_626 19 rfl
theorem dX12_worthNow_74 : decode cX12_worthNow 74 = .ok (.iload 4, 2) := dk_get dk_d06_626 20 rfl
theorem dX12_worthNow_76 : decode cX12_worthNow 76 = .ok (.invokevirtual 513, 3) := dk_get dk_d06_626 21 rfl
theorem dX12_worthNow_79 : decode cX12_worthNow 79 = .ok (.imul, 1) := dk_get dk_d06_626 22 rfl
theorem dX12_worthNow_80 : decode cX12_worthNow 80 = .ok (.iadd, 1) := dk_get dk_d06_626 23 rfl
theorem dX12_worthNow_81 : decode cX12_worthNow 81 = .ok (.iaload, 1) := dk_get dk_d06_626 24 rfl
theorem dk_d06_627 : dkc cX12_worthNow [(82, .ineg, 1), (83, .invokevirtual 421, 3), (86, .istore_n 3, 1), (87, .iinc 4 1, 3), (90, .goto (-42), 3), (93, .iload_n 3, 1), (94, .ireturn, 1)] = true := by decide +kernel
theorem dX12_worthNow_82 : decode cX12_worthNow 82 = .ok (.ineg, 1) := dk_get dk_d06_627 0 rfl
theorem dX12_worthNow_83 : decode cX12_worthNow 83 = .ok (.invokevirtual 421, 3) := dk_get dk_d06_627 1 rfl
theorem dX12_worthNow_86 : decode cX12_worthNow 86 = .ok (.istore_n 3, 1) := dk_get dk_d06_627 2 rfl
theorem dX12_worthNow_87 : decode cX12_worthNow 87 = .ok (.iinc 4 1, 3) := dk_get dk_d06_627 3 rfl
theorem dX12_worthNow_90 : decode cX12_worthNow 90 = .ok (.goto (-42), 3) := dk_get dk_d06_627 4 rfl
theorem dX12_worthNow_93 : decode cX12_worthNow 93 = .ok (.iload_n 3, 1) := dk_get dk_d06_627 5 rfl
theorem dX12_worthNow_94 : decode cX12_worthNow 94 = .ok (.ireturn, 1) := dk_get dk_d06_627 6 rfl
theorem dk_d06_628 : dkc cX12_findsWorth [(0, .sipush 19682, 3), (3, .istore_n 2, 1), (4, .iload_n 2, 1), (5, .iload_n 1, 1), (6, .if_icmp .lt 54, 3), (9, .aload_n 0, 1), (10, .iload_n 2, 1), (11, .iconst 3, 1), (12, .invokevirtual 516, 3), (15, .aload_n 0, 1), (16, .getfield 131, 3), (19, .iload_n 2, 1), (20, .aload_n 0, 1), (21, .getfield 497, 3), (24, .aload_n 0, 1), (25, .getfield 500, 3), (28, .if_icmp .eq 16, 3), (31, .aload_n 0, 1), (32, .getfield 497, 3), (35, .aload_n 0, 1), (36, .getfield 500, 3), (39, .iconst 1, 1), (40, .iadd, 1), (41, .if_icmp .ne 11, 3), (44, .aload_n 0, 1)] = true := by decide +kernel
theorem dX12_findsWorth_0 : decode cX12_findsWorth 0 = .ok (.sipush 19682, 3) := dk_get dk_d06_628 0 rfl
theorem dX12_findsWorth_3 : decode cX12_findsWorth 3 = .ok (.istore_n 2, 1) := dk_get dk_d06_628 1 rfl
theorem dX12_findsWorth_4 : decode cX12_findsWorth 4 = .ok (.iload_n 2, 1) := dk_get dk_d06_628 2 rfl
theorem dX12_findsWorth_5 : decode cX12_findsWorth 5 = .ok (.iload_n 1, 1) := dk_get dk_d06_628 3 rfl
theorem dX12_findsWorth_6 : decode cX12_findsWorth 6 = .ok (.if_icmp .lt 54, 3) := dk_get dk_d06_628 4 rfl
theorem dX12_findsWorth_9 : decode cX12_findsWorth 9 = .ok (.aload_n 0, 1) := dk_get dk_d06_628 5 rfl
theorem dX12_findsWorth_10 : decode cX12_findsWorth 10 = .ok (.iload_n 2, 1) := dk_get dk_d06_628 6 rfl
theorem dX12_findsWorth_11 : decode cX12_findsWorth 11 = .ok (.iconst 3, 1) := dk_get dk_d06_628 7 rfl
theorem dX12_findsWorth_12 : decode cX12_findsWorth 12 = .ok (.invokevirtual 516, 3) := dk_get dk_d06_628 8 rfl
theorem dX12_findsWorth_15 : decode cX12_findsWorth 15 = .ok (.aload_n 0, 1) := dk_get dk_d06_628 9 rfl
theorem dX12_findsWorth_16 : decode cX12_findsWorth 16 = .ok (.getfield 131, 3) := dk_get dk_d06_628 10 rfl
theorem dX12_findsWorth_19 : decode cX12_findsWorth 19 = .ok (.iload_n 2, 1) := dk_get dk_d06_628 11 rfl
theorem dX12_findsWorth_20 : decode cX12_findsWorth 20 = .ok (.aload_n 0, 1) := dk_get dk_d06_628 12 rfl
theorem dX12_findsWorth_21 : decode cX12_findsWorth 21 = .ok (.getfield 497, 3) := dk_get dk_d06_628 13 rfl
theorem dX12_findsWorth_24 : decode cX12_findsWorth 24 = .ok (.aload_n 0, 1) := dk_get dk_d06_628 14 rfl
theorem dX12_findsWorth_25 : decode cX12_findsWorth 25 = .ok (.getfield 500, 3) := dk_get dk_d06_628 15 rfl
theorem dX12_findsWorth_28 : decode cX12_findsWorth 28 = .ok (.if_icmp .eq 16, 3) := dk_get dk_d06_628 16 rfl
theorem dX12_findsWorth_31 : decode cX12_findsWorth 31 = .ok (.aload_n 0, 1) := dk_get dk_d06_628 17 rfl
theorem dX12_findsWorth_32 : decode cX12_findsWorth 32 = .ok (.getfield 497, 3) := dk_get dk_d06_628 18 rfl
theorem dX12_findsWorth_35 : decode cX12_findsWorth 35 = .ok (.aload_n 0, 1) := dk_get dk_d06_628 19 rfl
theorem dX12_findsWorth_36 : decode cX12_findsWorth 36 = .ok (.getfield 500, 3) := dk_get dk_d06_628 20 rfl
theorem dX12_findsWorth_39 : decode cX12_findsWorth 39 = .ok (.iconst 1, 1) := dk_get dk_d06_628 21 rfl
theorem dX12_findsWorth_40 : decode cX12_findsWorth 40 = .ok (.iadd, 1) := dk_get dk_d06_628 22 rfl
theorem dX12_findsWorth_41 : decode cX12_findsWorth 41 = .ok (.if_icmp .ne 11, 3) := dk_get dk_d06_628 23 rfl
theorem dX12_findsWorth_44 : decode cX12_findsWorth 44 = .ok (.aload_n 0, 1) := dk_get dk_d06_628 24 rfl
theorem dk_d06_629 : dkc cX12_findsWorth [(45, .iload_n 2, 1), (46, .invokevirtual 519, 3), (49, .goto 4, 3), (52, .iconst 0, 1), (53, .iastore, 1), (54, .iinc 2 (-1), 3), (57, .goto (-53), 3), (60, .return_, 1)] = true := by decide +kernel
theorem dX12_findsWorth_45 : decode cX12_findsWorth 45 = .ok (.iload_n 2, 1) := dk_get dk_d06_629 0 rfl
theorem dX12_findsWorth_46 : decode cX12_findsWorth 46 = .ok (.invokevirtual 519, 3) := dk_get dk_d06_629 1 rfl
theorem dX12_findsWorth_49 : decode cX12_findsWorth 49 = .ok (.goto 4, 3) := dk_get dk_d06_629 2 rfl
theorem dX12_findsWorth_52 : decode cX12_findsWorth 52 = .ok (.iconst 0, 1) := dk_get dk_d06_629 3 rfl
theorem dX12_findsWorth_53 : decode cX12_findsWorth 53 = .ok (.iastore, 1) := dk_get dk_d06_629 4 rfl
theorem dX12_findsWorth_54 : decode cX12_findsWorth 54 = .ok (.iinc 2 (-1), 3) := dk_get dk_d06_629 5 rfl
theorem dX12_findsWorth_57 : decode cX12_findsWorth 57 = .ok (.goto (-53), 3) := dk_get dk_d06_629 6 rfl
theorem dX12_findsWorth_60 : decode cX12_findsWorth 60 = .ok (.return_, 1) := dk_get dk_d06_629 7 rfl
theorem dk_d06_630 : dkc cX12_isGame [(0, .aload_n 0, 1), (1, .iload_n 1, 1), (2, .iconst 0, 1), (3, .ldc_w 522, 3), (6, .invokevirtual 155, 3), (9, .ifCond .ne 5, 3), (12, .iconst 0, 1), (13, .ireturn, 1), (14, .aload_n 0, 1), (15, .iload_n 1, 1), (16, .bipush 10, 2), (18, .invokevirtual 516, 3), (21, .iconst 0, 1), (22, .istore_n 2, 1), (23, .iload_n 2, 1), (24, .bipush 9, 2), (26, .if_icmp .ge 21, 3), (29, .aload_n 0, 1), (30, .getfield 134, 3), (33, .iload_n 2, 1), (34, .iaload, 1), (35, .iconst 2, 1), (36, .if_icmp .le 5, 3), (39, .iconst 0, 1), (40, .ireturn, 1)] = true := by decide +kernel
theorem dX12_isGame_0 : decode cX12_isGame 0 = .ok (.aload_n 0, 1) := dk_get dk_d06_630 0 rfl
theorem dX12_isGame_1 : decode cX12_isGame 1 = .ok (.iload_n 1, 1) := dk_get dk_d06_630 1 rfl
theorem dX12_isGame_2 : decode cX12_isGame 2 = .ok (.iconst 0, 1) := dk_get dk_d06_630 2 rfl
theorem dX12_isGame_3 : decode cX12_isGame 3 = .ok (.ldc_w 522, 3) := dk_get dk_d06_630 3 rfl
theorem dX12_isGame_6 : decode cX12_isGame 6 = .ok (.invokevirtual 155, 3) := dk_get dk_d06_630 4 rfl
theorem dX12_isGame_9 : decode cX12_isGame 9 = .ok (.ifCond .ne 5, 3) := dk_get dk_d06_630 5 rfl
theorem dX12_isGame_12 : decode cX12_isGame 12 = .ok (.iconst 0, 1) := dk_get dk_d06_630 6 rfl
theorem dX12_isGame_13 : decode cX12_isGame 13 = .ok (.ireturn, 1) := dk_get dk_d06_630 7 rfl
theorem dX12_isGame_14 : decode cX12_isGame 14 = .ok (.aload_n 0, 1) := dk_get dk_d06_630 8 rfl
theorem dX12_isGame_15 : decode cX12_isGame 15 = .ok (.iload_n 1, 1) := dk_get dk_d06_630 9 rfl
theorem dX12_isGame_16 : decode cX12_isGame 16 = .ok (.bipush 10, 2) := dk_get dk_d06_630 10 rfl
theorem dX12_isGame_18 : decode cX12_isGame 18 = .ok (.invokevirtual 516, 3) := dk_get dk_d06_630 11 rfl
theorem dX12_isGame_21 : decode cX12_isGame 21 = .ok (.iconst 0, 1) := dk_get dk_d06_630 12 rfl
theorem dX12_isGame_22 : decode cX12_isGame 22 = .ok (.istore_n 2, 1) := dk_get dk_d06_630 13 rfl
theorem dX12_isGame_23 : decode cX12_isGame 23 = .ok (.iload_n 2, 1) := dk_get dk_d06_630 14 rfl
theorem dX12_isGame_24 : decode cX12_isGame 24 = .ok (.bipush 9, 2) := dk_get dk_d06_630 15 rfl
theorem dX12_isGame_26 : decode cX12_isGame 26 = .ok (.if_icmp .ge 21, 3) := dk_get dk_d06_630 16 rfl
theorem dX12_isGame_29 : decode cX12_isGame 29 = .ok (.aload_n 0, 1) := dk_get dk_d06_630 17 rfl
theorem dX12_isGame_30 : decode cX12_isGame 30 = .ok (.getfield 134, 3) := dk_get dk_d06_630 18 rfl
theorem dX12_isGame_33 : decode cX12_isGame 33 = .ok (.iload_n 2, 1) := dk_get dk_d06_630 19 rfl
theorem dX12_isGame_34 : decode cX12_isGame 34 = .ok (.iaload, 1) := dk_get dk_d06_630 20 rfl
theorem dX12_isGame_35 : decode cX12_isGame 35 = .ok (.iconst 2, 1) := dk_get dk_d06_630 21 rfl
theorem dX12_isGame_36 : decode cX12_isGame 36 = .ok (.if_icmp .le 5, 3) := dk_get dk_d06_630 22 rfl
theorem dX12_isGame_39 : decode cX12_isGame 39 = .ok (.iconst 0, 1) := dk_get dk_d06_630 23 rfl
theorem dX12_isGame_40 : decode cX12_isGame 40 = .ok (.ireturn, 1) := dk_get dk_d06_630 24 rfl
theorem dk_d06_631 : dkc cX12_isGame [(41, .iinc 2 1, 3), (44, .goto (-21), 3), (47, .aload_n 0, 1), (48, .getfield 497, 3), (51, .aload_n 0, 1), (52, .getfield 500, 3), (55, .if_icmp .eq 16, 3), (58, .aload_n 0, 1), (59, .getfield 497, 3), (62, .aload_n 0, 1), (63, .getfield 500, 3), (66, .iconst 1, 1), (67, .iadd, 1), (68, .if_icmp .ne 23, 3), (71, .aload_n 0, 1), (72, .iconst 1, 1), (73, .invokevirtual 507, 3), (76, .ifCond .eq 11, 3), (79, .aload_n 0, 1), (80, .iconst 2, 1), (81, .invokevirtual 507, 3), (84, .ifCond .ne 7, 3), (87, .iconst 1, 1), (88, .goto 4, 3), (91, .iconst 0, 1)] = true := by decide +kernel
theorem dX12_isGame_41 : decode cX12_isGame 41 = .ok (.iinc 2 1, 3) := dk_get dk_d06_631 0 rfl
theorem dX12_isGame_44 : decode cX12_isGame 44 = .ok (.goto (-21), 3) := dk_get dk_d06_631 1 rfl
theorem dX12_isGame_47 : decode cX12_isGame 47 = .ok (.aload_n 0, 1) := dk_get dk_d06_631 2 rfl
theorem dX12_isGame_48 : decode cX12_isGame 48 = .ok (.getfield 497, 3) := dk_get dk_d06_631 3 rfl
theorem dX12_isGame_51 : decode cX12_isGame 51 = .ok (.aload_n 0, 1) := dk_get dk_d06_631 4 rfl
theorem dX12_isGame_52 : decode cX12_isGame 52 = .ok (.getfield 500, 3) := dk_get dk_d06_631 5 rfl
theorem dX12_isGame_55 : decode cX12_isGame 55 = .ok (.if_icmp .eq 16, 3) := dk_get dk_d06_631 6 rfl
theorem dX12_isGame_58 : decode cX12_isGame 58 = .ok (.aload_n 0, 1) := dk_get dk_d06_631 7 rfl
theorem dX12_isGame_59 : decode cX12_isGame 59 = .ok (.getfield 497, 3) := dk_get dk_d06_631 8 rfl
theorem dX12_isGame_62 : decode cX12_isGame 62 = .ok (.aload_n 0, 1) := dk_get dk_d06_631 9 rfl
theorem dX12_isGame_63 : decode cX12_isGame 63 = .ok (.getfield 500, 3) := dk_get dk_d06_631 10 rfl
theorem dX12_isGame_66 : decode cX12_isGame 66 = .ok (.iconst 1, 1) := dk_get dk_d06_631 11 rfl
theorem dX12_isGame_67 : decode cX12_isGame 67 = .ok (.iadd, 1) := dk_get dk_d06_631 12 rfl
theorem dX12_isGame_68 : decode cX12_isGame 68 = .ok (.if_icmp .ne 23, 3) := dk_get dk_d06_631 13 rfl
theorem dX12_isGame_71 : decode cX12_isGame 71 = .ok (.aload_n 0, 1) := dk_get dk_d06_631 14 rfl
theorem dX12_isGame_72 : decode cX12_isGame 72 = .ok (.iconst 1, 1) := dk_get dk_d06_631 15 rfl
theorem dX12_isGame_73 : decode cX12_isGame 73 = .ok (.invokevirtual 507, 3) := dk_get dk_d06_631 16 rfl
theorem dX12_isGame_76 : decode cX12_isGame 76 = .ok (.ifCond .eq 11, 3) := dk_get dk_d06_631 17 rfl
theorem dX12_isGame_79 : decode cX12_isGame 79 = .ok (.aload_n 0, 1) := dk_get dk_d06_631 18 rfl
theorem dX12_isGame_80 : decode cX12_isGame 80 = .ok (.iconst 2, 1) := dk_get dk_d06_631 19 rfl
theorem dX12_isGame_81 : decode cX12_isGame 81 = .ok (.invokevirtual 507, 3) := dk_get dk_d06_631 20 rfl
theorem dX12_isGame_84 : decode cX12_isGame 84 = .ok (.ifCond .ne 7, 3) := dk_get dk_d06_631 21 rfl
theorem dX12_isGame_87 : decode cX12_isGame 87 = .ok (.iconst 1, 1) := dk_get dk_d06_631 22 rfl
theorem dX12_isGame_88 : decode cX12_isGame 88 = .ok (.goto 4, 3) := dk_get dk_d06_631 23 rfl
theorem dX12_isGame_91 : decode cX12_isGame 91 = .ok (.iconst 0, 1) := dk_get dk_d06_631 24 rfl
theorem dk_d06_632 : dkc cX12_isGame [(92, .ireturn, 1)] = true := by decide +kernel
theorem dX12_isGame_92 : decode cX12_isGame 92 = .ok (.ireturn, 1) := dk_get dk_d06_632 0 rfl
theorem dk_d06_633 : dkc cX12_game [(0, .aload_n 0, 1), (1, .iconst 0, 1), (2, .putfield 140, 3), (5, .aload_n 0, 1), (6, .iload_n 2, 1), (7, .iconst 0, 1), (8, .iconst 1, 1), (9, .invokevirtual 155, 3), (12, .ifCond .eq 11, 3), (15, .aload_n 0, 1), (16, .iload_n 1, 1), (17, .invokevirtual 523, 3), (20, .ifCond .ne 6, 3), (23, .bipush (-10), 2), (25, .ireturn, 1), (26, .iconst 0, 1), (27, .istore_n 3, 1), (28, .iconst 0, 1), (29, .istore 4, 2), (31, .iload 4, 2), (33, .bipush 9, 2), (35, .if_icmp .ge 21, 3), (38, .iconst 3, 1), (39, .iload_n 3, 1), (40, .imul, 1)] = true := by decide +kernel
theorem dX12_game_0 : decode cX12_game 0 = .ok (.aload_n 0, 1) := dk_get dk_d06_633 0 rfl
theorem dX12_game_1 : decode cX12_game 1 = .ok (.iconst 0, 1) := dk_get dk_d06_633 1 rfl
theorem dX12_game_2 : decode cX12_game 2 = .ok (.putfield 140, 3) := dk_get dk_d06_633 2 rfl
theorem dX12_game_5 : decode cX12_game 5 = .ok (.aload_n 0, 1) := dk_get dk_d06_633 3 rfl
theorem dX12_game_6 : decode cX12_game 6 = .ok (.iload_n 2, 1) := dk_get dk_d06_633 4 rfl
theorem dX12_game_7 : decode cX12_game 7 = .ok (.iconst 0, 1) := dk_get dk_d06_633 5 rfl
theorem dX12_game_8 : decode cX12_game 8 = .ok (.iconst 1, 1) := dk_get dk_d06_633 6 rfl
theorem dX12_game_9 : decode cX12_game 9 = .ok (.invokevirtual 155, 3) := dk_get dk_d06_633 7 rfl
theorem dX12_game_12 : decode cX12_game 12 = .ok (.ifCond .eq 11, 3) := dk_get dk_d06_633 8 rfl
theorem dX12_game_15 : decode cX12_game 15 = .ok (.aload_n 0, 1) := dk_get dk_d06_633 9 rfl
theorem dX12_game_16 : decode cX12_game 16 = .ok (.iload_n 1, 1) := dk_get dk_d06_633 10 rfl
theorem dX12_game_17 : decode cX12_game 17 = .ok (.invokevirtual 523, 3) := dk_get dk_d06_633 11 rfl
theorem dX12_game_20 : decode cX12_game 20 = .ok (.ifCond .ne 6, 3) := dk_get dk_d06_633 12 rfl
theorem dX12_game_23 : decode cX12_game 23 = .ok (.bipush (-10), 2) := dk_get dk_d06_633 13 rfl
theorem dX12_game_25 : decode cX12_game 25 = .ok (.ireturn, 1) := dk_get dk_d06_633 14 rfl
theorem dX12_game_26 : decode cX12_game 26 = .ok (.iconst 0, 1) := dk_get dk_d06_633 15 rfl
theorem dX12_game_27 : decode cX12_game 27 = .ok (.istore_n 3, 1) := dk_get dk_d06_633 16 rfl
theorem dX12_game_28 : decode cX12_game 28 = .ok (.iconst 0, 1) := dk_get dk_d06_633 17 rfl
theorem dX12_game_29 : decode cX12_game 29 = .ok (.istore 4, 2) := dk_get dk_d06_633 18 rfl
theorem dX12_game_31 : decode cX12_game 31 = .ok (.iload 4, 2) := dk_get dk_d06_633 19 rfl
theorem dX12_game_33 : decode cX12_game 33 = .ok (.bipush 9, 2) := dk_get dk_d06_633 20 rfl
theorem dX12_game_35 : decode cX12_game 35 = .ok (.if_icmp .ge 21, 3) := dk_get dk_d06_633 21 rfl
theorem dX12_game_38 : decode cX12_game 38 = .ok (.iconst 3, 1) := dk_get dk_d06_633 22 rfl
theorem dX12_game_39 : decode cX12_game 39 = .ok (.iload_n 3, 1) := dk_get dk_d06_633 23 rfl
theorem dX12_game_40 : decode cX12_game 40 = .ok (.imul, 1) := dk_get dk_d06_633 24 rfl
theorem dk_d06_634 : dkc cX12_game [(41, .aload_n 0, 1), (42, .getfield 134, 3), (45, .iload 4, 2), (47, .iaload, 1), (48, .iadd, 1), (49, .istore_n 3, 1), (50, .iinc 4 1, 3), (53, .goto (-22), 3), (56, .aload_n 0, 1), (57, .iload_n 3, 1), (58, .invokevirtual 526, 3), (61, .aload_n 0, 1), (62, .iload_n 3, 1), (63, .iconst 3, 1), (64, .invokevirtual 516, 3), (67, .iload_n 2, 1), (68, .ifCond .ne 10, 3), (71, .aload_n 0, 1), (72, .getfield 131, 3), (75, .iload_n 3, 1), (76, .iaload, 1), (77, .ireturn, 1), (78, .aload_n 0, 1), (79, .invokevirtual 529, 3), (82, .ifCond .eq 5, 3)] = true := by decide +kernel
theorem dX12_game_41 : decode cX12_game 41 = .ok (.aload_n 0, 1) := dk_get dk_d06_634 0 rfl
theorem dX12_game_42 : decode cX12_game 42 = .ok (.getfield 134, 3) := dk_get dk_d06_634 1 rfl
theorem dX12_game_45 : decode cX12_game 45 = .ok (.iload 4, 2) := dk_get dk_d06_634 2 rfl
theorem dX12_game_47 : decode cX12_game 47 = .ok (.iaload, 1) := dk_get dk_d06_634 3 rfl
theorem dX12_game_48 : decode cX12_game 48 = .ok (.iadd, 1) := dk_get dk_d06_634 4 rfl
theorem dX12_game_49 : decode cX12_game 49 = .ok (.istore_n 3, 1) := dk_get dk_d06_634 5 rfl
theorem dX12_game_50 : decode cX12_game 50 = .ok (.iinc 4 1, 3) := dk_get dk_d06_634 6 rfl
theorem dX12_game_53 : decode cX12_game 53 = .ok (.goto (-22), 3) := dk_get dk_d06_634 7 rfl
theorem dX12_game_56 : decode cX12_game 56 = .ok (.aload_n 0, 1) := dk_get dk_d06_634 8 rfl
theorem dX12_game_57 : decode cX12_game 57 = .ok (.iload_n 3, 1) := dk_get dk_d06_634 9 rfl
theorem dX12_game_58 : decode cX12_game 58 = .ok (.invokevirtual 526, 3) := dk_get dk_d06_634 10 rfl
theorem dX12_game_61 : decode cX12_game 61 = .ok (.aload_n 0, 1) := dk_get dk_d06_634 11 rfl
theorem dX12_game_62 : decode cX12_game 62 = .ok (.iload_n 3, 1) := dk_get dk_d06_634 12 rfl
theorem dX12_game_63 : decode cX12_game 63 = .ok (.iconst 3, 1) := dk_get dk_d06_634 13 rfl
theorem dX12_game_64 : decode cX12_game 64 = .ok (.invokevirtual 516, 3) := dk_get dk_d06_634 14 rfl
theorem dX12_game_67 : decode cX12_game 67 = .ok (.iload_n 2, 1) := dk_get dk_d06_634 15 rfl
theorem dX12_game_68 : decode cX12_game 68 = .ok (.ifCond .ne 10, 3) := dk_get dk_d06_634 16 rfl
theorem dX12_game_71 : decode cX12_game 71 = .ok (.aload_n 0, 1) := dk_get dk_d06_634 17 rfl
theorem dX12_game_72 : decode cX12_game 72 = .ok (.getfield 131, 3) := dk_get dk_d06_634 18 rfl
theorem dX12_game_75 : decode cX12_game 75 = .ok (.iload_n 3, 1) := dk_get dk_d06_634 19 rfl
theorem dX12_game_76 : decode cX12_game 76 = .ok (.iaload, 1) := dk_get dk_d06_634 20 rfl
theorem dX12_game_77 : decode cX12_game 77 = .ok (.ireturn, 1) := dk_get dk_d06_634 21 rfl
theorem dX12_game_78 : decode cX12_game 78 = .ok (.aload_n 0, 1) := dk_get dk_d06_634 22 rfl
theorem dX12_game_79 : decode cX12_game 79 = .ok (.invokevirtual 529, 3) := dk_get dk_d06_634 23 rfl
theorem dX12_game_82 : decode cX12_game 82 = .ok (.ifCond .eq 5, 3) := dk_get dk_d06_634 24 rfl
theorem dk_d06_635 : dkc cX12_game [(85, .iconst (-1), 1), (86, .ireturn, 1), (87, .iconst 0, 1), (88, .istore 4, 2), (90, .iload 4, 2), (92, .bipush 9, 2), (94, .if_icmp .ge 50, 3), (97, .aload_n 0, 1), (98, .getfield 134, 3), (101, .iload 4, 2), (103, .iaload, 1), (104, .ifCond .ne 34, 3), (107, .aload_n 0, 1), (108, .getfield 131, 3), (111, .iload_n 3, 1), (112, .aload_n 0, 1), (113, .invokevirtual 510, 3), (116, .aload_n 0, 1), (117, .iload 4, 2), (119, .invokevirtual 513, 3), (122, .imul, 1), (123, .iadd, 1), (124, .iaload, 1), (125, .ineg, 1), (126, .aload_n 0, 1)] = true := by decide +kernel
theorem dX12_game_85 : decode cX12_game 85 = .ok (.iconst (-1), 1) := dk_get dk_d06_635 0 rfl
theorem dX12_game_86 : decode cX12_game 86 = .ok (.ireturn, 1) := dk_get dk_d06_635 1 rfl
theorem dX12_game_87 : decode cX12_game 87 = .ok (.iconst 0, 1) := dk_get dk_d06_635 2 rfl
theorem dX12_game_88 : decode cX12_game 88 = .ok (.istore 4, 2) := dk_get dk_d06_635 3 rfl
theorem dX12_game_90 : decode cX12_game 90 = .ok (.iload 4, 2) := dk_get dk_d06_635 4 rfl
theorem dX12_game_92 : decode cX12_game 92 = .ok (.bipush 9, 2) := dk_get dk_d06_635 5 rfl
theorem dX12_game_94 : decode cX12_game 94 = .ok (.if_icmp .ge 50, 3) := dk_get dk_d06_635 6 rfl
theorem dX12_game_97 : decode cX12_game 97 = .ok (.aload_n 0, 1) := dk_get dk_d06_635 7 rfl
theorem dX12_game_98 : decode cX12_game 98 = .ok (.getfield 134, 3) := dk_get dk_d06_635 8 rfl
theorem dX12_game_101 : decode cX12_game 101 = .ok (.iload 4, 2) := dk_get dk_d06_635 9 rfl
theorem dX12_game_103 : decode cX12_game 103 = .ok (.iaload, 1) := dk_get dk_d06_635 10 rfl
theorem dX12_game_104 : decode cX12_game 104 = .ok (.ifCond .ne 34, 3) := dk_get dk_d06_635 11 rfl
theorem dX12_game_107 : decode cX12_game 107 = .ok (.aload_n 0, 1) := dk_get dk_d06_635 12 rfl
theorem dX12_game_108 : decode cX12_game 108 = .ok (.getfield 131, 3) := dk_get dk_d06_635 13 rfl
theorem dX12_game_111 : decode cX12_game 111 = .ok (.iload_n 3, 1) := dk_get dk_d06_635 14 rfl
theorem dX12_game_112 : decode cX12_game 112 = .ok (.aload_n 0, 1) := dk_get dk_d06_635 15 rfl
theorem dX12_game_113 : decode cX12_game 113 = .ok (.invokevirtual 510, 3) := dk_get dk_d06_635 16 rfl
theorem dX12_game_116 : decode cX12_game 116 = .ok (.aload_n 0, 1) := dk_get dk_d06_635 17 rfl
theorem dX12_game_117 : decode cX12_game 117 = .ok (.iload 4, 2) := dk_get dk_d06_635 18 rfl
theorem dX12_game_119 : decode cX12_game 119 = .ok (.invokevirtual 513, 3) := dk_get dk_d06_635 19 rfl
theorem dX12_game_122 : decode cX12_game 122 = .ok (.imul, 1) := dk_get dk_d06_635 20 rfl
theorem dX12_game_123 : decode cX12_game 123 = .ok (.iadd, 1) := dk_get dk_d06_635 21 rfl
theorem dX12_game_124 : decode cX12_game 124 = .ok (.iaload, 1) := dk_get dk_d06_635 22 rfl
theorem dX12_game_125 : decode cX12_game 125 = .ok (.ineg, 1) := dk_get dk_d06_635 23 rfl
theorem dX12_game_126 : decode cX12_game 126 = .ok (.aload_n 0, 1) := dk_get dk_d06_635 24 rfl
theorem dk_d06_636 : dkc cX12_game [(127, .getfield 131, 3), (130, .iload_n 3, 1), (131, .iaload, 1), (132, .if_icmp .ne 6, 3), (135, .iload 4, 2), (137, .ireturn, 1), (138, .iinc 4 1, 3), (141, .goto (-51), 3), (144, .iconst (-1), 1), (145, .ireturn, 1)] = true := by decide +kernel
theorem dX12_game_127 : decode cX12_game 127 = .ok (.getfield 131, 3) := dk_get dk_d06_636 0 rfl
theorem dX12_game_130 : decode cX12_game 130 = .ok (.iload_n 3, 1) := dk_get dk_d06_636 1 rfl
theorem dX12_game_131 : decode cX12_game 131 = .ok (.iaload, 1) := dk_get dk_d06_636 2 rfl
theorem dX12_game_132 : decode cX12_game 132 = .ok (.if_icmp .ne 6, 3) := dk_get dk_d06_636 3 rfl
theorem dX12_game_135 : decode cX12_game 135 = .ok (.iload 4, 2) := dk_get dk_d06_636 4 rfl
theorem dX12_game_137 : decode cX12_game 137 = .ok (.ireturn, 1) := dk_get dk_d06_636 5 rfl
theorem dX12_game_138 : decode cX12_game 138 = .ok (.iinc 4 1, 3) := dk_get dk_d06_636 6 rfl
theorem dX12_game_141 : decode cX12_game 141 = .ok (.goto (-51), 3) := dk_get dk_d06_636 7 rfl
theorem dX12_game_144 : decode cX12_game 144 = .ok (.iconst (-1), 1) := dk_get dk_d06_636 8 rfl
theorem dX12_game_145 : decode cX12_game 145 = .ok (.ireturn, 1) := dk_get dk_d06_636 9 rfl
theorem dk_d06_637 : dkc cX12_keeps [(0, .aload_n 0, 1), (1, .aload_n 0, 1), (2, .getfield 532, 3), (5, .iconst 1, 1), (6, .iadd, 1), (7, .putfield 532, 3), (10, .aload_n 0, 1), (11, .getfield 535, 3), (14, .ifCond .ne 15, 3), (17, .aload_n 0, 1), (18, .getfield 137, 3), (21, .aload_n 0, 1), (22, .getfield 532, 3), (25, .iconst 1, 1), (26, .isub, 1), (27, .iaload, 1), (28, .ireturn, 1), (29, .aload_n 0, 1), (30, .getfield 137, 3), (33, .aload_n 0, 1), (34, .getfield 532, 3), (37, .iconst 1, 1), (38, .isub, 1), (39, .iload_n 1, 1), (40, .iastore, 1)] = true := by decide +kernel
theorem dX12_keeps_0 : decode cX12_keeps 0 = .ok (.aload_n 0, 1) := dk_get dk_d06_637 0 rfl
theorem dX12_keeps_1 : decode cX12_keeps 1 = .ok (.aload_n 0, 1) := dk_get dk_d06_637 1 rfl
theorem dX12_keeps_2 : decode cX12_keeps 2 = .ok (.getfield 532, 3) := dk_get dk_d06_637 2 rfl
theorem dX12_keeps_5 : decode cX12_keeps 5 = .ok (.iconst 1, 1) := dk_get dk_d06_637 3 rfl
theorem dX12_keeps_6 : decode cX12_keeps 6 = .ok (.iadd, 1) := dk_get dk_d06_637 4 rfl
theorem dX12_keeps_7 : decode cX12_keeps 7 = .ok (.putfield 532, 3) := dk_get dk_d06_637 5 rfl
theorem dX12_keeps_10 : decode cX12_keeps 10 = .ok (.aload_n 0, 1) := dk_get dk_d06_637 6 rfl
theorem dX12_keeps_11 : decode cX12_keeps 11 = .ok (.getfield 535, 3) := dk_get dk_d06_637 7 rfl
theorem dX12_keeps_14 : decode cX12_keeps 14 = .ok (.ifCond .ne 15, 3) := dk_get dk_d06_637 8 rfl
theorem dX12_keeps_17 : decode cX12_keeps 17 = .ok (.aload_n 0, 1) := dk_get dk_d06_637 9 rfl
theorem dX12_keeps_18 : decode cX12_keeps 18 = .ok (.getfield 137, 3) := dk_get dk_d06_637 10 rfl
theorem dX12_keeps_21 : decode cX12_keeps 21 = .ok (.aload_n 0, 1) := dk_get dk_d06_637 11 rfl
theorem dX12_keeps_22 : decode cX12_keeps 22 = .ok (.getfield 532, 3) := dk_get dk_d06_637 12 rfl
theorem dX12_keeps_25 : decode cX12_keeps 25 = .ok (.iconst 1, 1) := dk_get dk_d06_637 13 rfl
theorem dX12_keeps_26 : decode cX12_keeps 26 = .ok (.isub, 1) := dk_get dk_d06_637 14 rfl
theorem dX12_keeps_27 : decode cX12_keeps 27 = .ok (.iaload, 1) := dk_get dk_d06_637 15 rfl
theorem dX12_keeps_28 : decode cX12_keeps 28 = .ok (.ireturn, 1) := dk_get dk_d06_637 16 rfl
theorem dX12_keeps_29 : decode cX12_keeps 29 = .ok (.aload_n 0, 1) := dk_get dk_d06_637 17 rfl
theorem dX12_keeps_30 : decode cX12_keeps 30 = .ok (.getfield 137, 3) := dk_get dk_d06_637 18 rfl
theorem dX12_keeps_33 : decode cX12_keeps 33 = .ok (.aload_n 0, 1) := dk_get dk_d06_637 19 rfl
theorem dX12_keeps_34 : decode cX12_keeps 34 = .ok (.getfield 532, 3) := dk_get dk_d06_637 20 rfl
theorem dX12_keeps_37 : decode cX12_keeps 37 = .ok (.iconst 1, 1) := dk_get dk_d06_637 21 rfl
theorem dX12_keeps_38 : decode cX12_keeps 38 = .ok (.isub, 1) := dk_get dk_d06_637 22 rfl
theorem dX12_keeps_39 : decode cX12_keeps 39 = .ok (.iload_n 1, 1) := dk_get dk_d06_637 23 rfl
theorem dX12_keeps_40 : decode cX12_keeps 40 = .ok (.iastore, 1) := dk_get dk_d06_637 24 rfl
theorem dk_d06_638 : dkc cX12_keeps [(41, .iload_n 1, 1), (42, .ireturn, 1)] = true := by decide +kernel
theorem dX12_keeps_41 : decode cX12_keeps 41 = .ok (.iload_n 1, 1) := dk_get dk_d06_638 0 rfl
theorem dX12_keeps_42 : decode cX12_keeps 42 = .ok (.ireturn, 1) := dk_get dk_d06_638 1 rfl
theorem dk_d06_639 : dkc cX12_keepsLaw [(0, .aload_n 0, 1), (1, .getfield 37, 3), (4, .iconst 0, 1), (5, .aload_n 0, 1), (6, .aload_n 0, 1), (7, .getfield 37, 3), (10, .iconst 0, 1), (11, .iaload, 1), (12, .invokevirtual 538, 3), (15, .iastore, 1), (16, .iconst 0, 1), (17, .istore_n 1, 1), (18, .iload_n 1, 1), (19, .bipush 16, 2), (21, .if_icmp .ge 73, 3), (24, .aload_n 0, 1), (25, .getfield 40, 3), (28, .iload_n 1, 1), (29, .aload_n 0, 1), (30, .aload_n 0, 1), (31, .getfield 40, 3), (34, .iload_n 1, 1), (35, .iaload, 1), (36, .invokevirtual 538, 3), (39, .iastore, 1)] = true := by decide +kernel
theorem dX12_keepsLaw_0 : decode cX12_keepsLaw 0 = .ok (.aload_n 0, 1) := dk_get dk_d06_639 0 rfl
theorem dX12_keepsLaw_1 : decode cX12_keepsLaw 1 = .ok (.getfield 37, 3) := dk_get dk_d06_639 1 rfl
theorem dX12_keepsLaw_4 : decode cX12_keepsLaw 4 = .ok (.iconst 0, 1) := dk_get dk_d06_639 2 rfl
theorem dX12_keepsLaw_5 : decode cX12_keepsLaw 5 = .ok (.aload_n 0, 1) := dk_get dk_d06_639 3 rfl
theorem dX12_keepsLaw_6 : decode cX12_keepsLaw 6 = .ok (.aload_n 0, 1) := dk_get dk_d06_639 4 rfl
theorem dX12_keepsLaw_7 : decode cX12_keepsLaw 7 = .ok (.getfield 37, 3) := dk_get dk_d06_639 5 rfl
theorem dX12_keepsLaw_10 : decode cX12_keepsLaw 10 = .ok (.iconst 0, 1) := dk_get dk_d06_639 6 rfl
theorem dX12_keepsLaw_11 : decode cX12_keepsLaw 11 = .ok (.iaload, 1) := dk_get dk_d06_639 7 rfl
theorem dX12_keepsLaw_12 : decode cX12_keepsLaw 12 = .ok (.invokevirtual 538, 3) := dk_get dk_d06_639 8 rfl
theorem dX12_keepsLaw_15 : decode cX12_keepsLaw 15 = .ok (.iastore, 1) := dk_get dk_d06_639 9 rfl
theorem dX12_keepsLaw_16 : decode cX12_keepsLaw 16 = .ok (.iconst 0, 1) := dk_get dk_d06_639 10 rfl
theorem dX12_keepsLaw_17 : decode cX12_keepsLaw 17 = .ok (.istore_n 1, 1) := dk_get dk_d06_639 11 rfl
theorem dX12_keepsLaw_18 : decode cX12_keepsLaw 18 = .ok (.iload_n 1, 1) := dk_get dk_d06_639 12 rfl
theorem dX12_keepsLaw_19 : decode cX12_keepsLaw 19 = .ok (.bipush 16, 2) := dk_get dk_d06_639 13 rfl
theorem dX12_keepsLaw_21 : decode cX12_keepsLaw 21 = .ok (.if_icmp .ge 73, 3) := dk_get dk_d06_639 14 rfl
theorem dX12_keepsLaw_24 : decode cX12_keepsLaw 24 = .ok (.aload_n 0, 1) := dk_get dk_d06_639 15 rfl
theorem dX12_keepsLaw_25 : decode cX12_keepsLaw 25 = .ok (.getfield 40, 3) := dk_get dk_d06_639 16 rfl
theorem dX12_keepsLaw_28 : decode cX12_keepsLaw 28 = .ok (.iload_n 1, 1) := dk_get dk_d06_639 17 rfl
theorem dX12_keepsLaw_29 : decode cX12_keepsLaw 29 = .ok (.aload_n 0, 1) := dk_get dk_d06_639 18 rfl
theorem dX12_keepsLaw_30 : decode cX12_keepsLaw 30 = .ok (.aload_n 0, 1) := dk_get dk_d06_639 19 rfl
theorem dX12_keepsLaw_31 : decode cX12_keepsLaw 31 = .ok (.getfield 40, 3) := dk_get dk_d06_639 20 rfl
theorem dX12_keepsLaw_34 : decode cX12_keepsLaw 34 = .ok (.iload_n 1, 1) := dk_get dk_d06_639 21 rfl
theorem dX12_keepsLaw_35 : decode cX12_keepsLaw 35 = .ok (.iaload, 1) := dk_get dk_d06_639 22 rfl
theorem dX12_keepsLaw_36 : decode cX12_keepsLaw 36 = .ok (.invokevirtual 538, 3) := dk_get dk_d06_639 23 rfl
theorem dX12_keepsLaw_39 : decode cX12_keepsLaw 39 = .ok (.iastore, 1) := dk_get dk_d06_639 24 rfl
theorem dk_d06_640 : dkc cX12_keepsLaw [(40, .aload_n 0, 1), (41, .getfield 43, 3), (44, .iload_n 1, 1), (45, .aload_n 0, 1), (46, .aload_n 0, 1), (47, .getfield 43, 3), (50, .iload_n 1, 1), (51, .iaload, 1), (52, .invokevirtual 538, 3), (55, .iastore, 1), (56, .aload_n 0, 1), (57, .getfield 46, 3), (60, .iload_n 1, 1), (61, .aload_n 0, 1), (62, .aload_n 0, 1), (63, .getfield 46, 3), (66, .iload_n 1, 1), (67, .iaload, 1), (68, .invokevirtual 538, 3), (71, .iastore, 1), (72, .aload_n 0, 1), (73, .getfield 49, 3), (76, .iload_n 1, 1), (77, .aload_n 0, 1), (78, .aload_n 0, 1)] = true := by decide +kernel
theorem dX12_keepsLaw_40 : decode cX12_keepsLaw 40 = .ok (.aload_n 0, 1) := dk_get dk_d06_640 0 rfl
theorem dX12_keepsLaw_41 : decode cX12_keepsLaw 41 = .ok (.getfield 43, 3) := dk_get dk_d06_640 1 rfl
theorem dX12_keepsLaw_44 : decode cX12_keepsLaw 44 = .ok (.iload_n 1, 1) := dk_get dk_d06_640 2 rfl
theorem dX12_keepsLaw_45 : decode cX12_keepsLaw 45 = .ok (.aload_n 0, 1) := dk_get dk_d06_640 3 rfl
theorem dX12_keepsLaw_46 : decode cX12_keepsLaw 46 = .ok (.aload_n 0, 1) := dk_get dk_d06_640 4 rfl
theorem dX12_keepsLaw_47 : decode cX12_keepsLaw 47 = .ok (.getfield 43, 3) := dk_get dk_d06_640 5 rfl
theorem dX12_keepsLaw_50 : decode cX12_keepsLaw 50 = .ok (.iload_n 1, 1) := dk_get dk_d06_640 6 rfl
theorem dX12_keepsLaw_51 : decode cX12_keepsLaw 51 = .ok (.iaload, 1) := dk_get dk_d06_640 7 rfl
theorem dX12_keepsLaw_52 : decode cX12_keepsLaw 52 = .ok (.invokevirtual 538, 3) := dk_get dk_d06_640 8 rfl
theorem dX12_keepsLaw_55 : decode cX12_keepsLaw 55 = .ok (.iastore, 1) := dk_get dk_d06_640 9 rfl
theorem dX12_keepsLaw_56 : decode cX12_keepsLaw 56 = .ok (.aload_n 0, 1) := dk_get dk_d06_640 10 rfl
theorem dX12_keepsLaw_57 : decode cX12_keepsLaw 57 = .ok (.getfield 46, 3) := dk_get dk_d06_640 11 rfl
theorem dX12_keepsLaw_60 : decode cX12_keepsLaw 60 = .ok (.iload_n 1, 1) := dk_get dk_d06_640 12 rfl
theorem dX12_keepsLaw_61 : decode cX12_keepsLaw 61 = .ok (.aload_n 0, 1) := dk_get dk_d06_640 13 rfl
theorem dX12_keepsLaw_62 : decode cX12_keepsLaw 62 = .ok (.aload_n 0, 1) := dk_get dk_d06_640 14 rfl
theorem dX12_keepsLaw_63 : decode cX12_keepsLaw 63 = .ok (.getfield 46, 3) := dk_get dk_d06_640 15 rfl
theorem dX12_keepsLaw_66 : decode cX12_keepsLaw 66 = .ok (.iload_n 1, 1) := dk_get dk_d06_640 16 rfl
theorem dX12_keepsLaw_67 : decode cX12_keepsLaw 67 = .ok (.iaload, 1) := dk_get dk_d06_640 17 rfl
theorem dX12_keepsLaw_68 : decode cX12_keepsLaw 68 = .ok (.invokevirtual 538, 3) := dk_get dk_d06_640 18 rfl
theorem dX12_keepsLaw_71 : decode cX12_keepsLaw 71 = .ok (.iastore, 1) := dk_get dk_d06_640 19 rfl
theorem dX12_keepsLaw_72 : decode cX12_keepsLaw 72 = .ok (.aload_n 0, 1) := dk_get dk_d06_640 20 rfl
theorem dX12_keepsLaw_73 : decode cX12_keepsLaw 73 = .ok (.getfield 49, 3) := dk_get dk_d06_640 21 rfl
theorem dX12_keepsLaw_76 : decode cX12_keepsLaw 76 = .ok (.iload_n 1, 1) := dk_get dk_d06_640 22 rfl
theorem dX12_keepsLaw_77 : decode cX12_keepsLaw 77 = .ok (.aload_n 0, 1) := dk_get dk_d06_640 23 rfl
theorem dX12_keepsLaw_78 : decode cX12_keepsLaw 78 = .ok (.aload_n 0, 1) := dk_get dk_d06_640 24 rfl
theorem dk_d06_641 : dkc cX12_keepsLaw [(79, .getfield 49, 3), (82, .iload_n 1, 1), (83, .iaload, 1), (84, .invokevirtual 538, 3), (87, .iastore, 1), (88, .iinc 1 1, 3), (91, .goto (-73), 3), (94, .iconst 0, 1), (95, .istore_n 1, 1), (96, .iload_n 1, 1), (97, .sipush 400, 3), (100, .if_icmp .ge 41, 3), (103, .aload_n 0, 1), (104, .getfield 52, 3), (107, .iload_n 1, 1), (108, .aload_n 0, 1), (109, .aload_n 0, 1), (110, .getfield 52, 3), (113, .iload_n 1, 1), (114, .iaload, 1), (115, .invokevirtual 538, 3), (118, .iastore, 1), (119, .aload_n 0, 1), (120, .getfield 55, 3), (123, .iload_n 1, 1)] = true := by decide +kernel
theorem dX12_keepsLaw_79 : decode cX12_keepsLaw 79 = .ok (.getfield 49, 3) := dk_get dk_d06_641 0 rfl
theorem dX12_keepsLaw_82 : decode cX12_keepsLaw 82 = .ok (.iload_n 1, 1) := dk_get dk_d06_641 1 rfl
theorem dX12_keepsLaw_83 : decode cX12_keepsLaw 83 = .ok (.iaload, 1) := dk_get dk_d06_641 2 rfl
theorem dX12_keepsLaw_84 : decode cX12_keepsLaw 84 = .ok (.invokevirtual 538, 3) := dk_get dk_d06_641 3 rfl
theorem dX12_keepsLaw_87 : decode cX12_keepsLaw 87 = .ok (.iastore, 1) := dk_get dk_d06_641 4 rfl
theorem dX12_keepsLaw_88 : decode cX12_keepsLaw 88 = .ok (.iinc 1 1, 3) := dk_get dk_d06_641 5 rfl
theorem dX12_keepsLaw_91 : decode cX12_keepsLaw 91 = .ok (.goto (-73), 3) := dk_get dk_d06_641 6 rfl
theorem dX12_keepsLaw_94 : decode cX12_keepsLaw 94 = .ok (.iconst 0, 1) := dk_get dk_d06_641 7 rfl
theorem dX12_keepsLaw_95 : decode cX12_keepsLaw 95 = .ok (.istore_n 1, 1) := dk_get dk_d06_641 8 rfl
theorem dX12_keepsLaw_96 : decode cX12_keepsLaw 96 = .ok (.iload_n 1, 1) := dk_get dk_d06_641 9 rfl
theorem dX12_keepsLaw_97 : decode cX12_keepsLaw 97 = .ok (.sipush 400, 3) := dk_get dk_d06_641 10 rfl
theorem dX12_keepsLaw_100 : decode cX12_keepsLaw 100 = .ok (.if_icmp .ge 41, 3) := dk_get dk_d06_641 11 rfl
theorem dX12_keepsLaw_103 : decode cX12_keepsLaw 103 = .ok (.aload_n 0, 1) := dk_get dk_d06_641 12 rfl
theorem dX12_keepsLaw_104 : decode cX12_keepsLaw 104 = .ok (.getfield 52, 3) := dk_get dk_d06_641 13 rfl
theorem dX12_keepsLaw_107 : decode cX12_keepsLaw 107 = .ok (.iload_n 1, 1) := dk_get dk_d06_641 14 rfl
theorem dX12_keepsLaw_108 : decode cX12_keepsLaw 108 = .ok (.aload_n 0, 1) := dk_get dk_d06_641 15 rfl
theorem dX12_keepsLaw_109 : decode cX12_keepsLaw 109 = .ok (.aload_n 0, 1) := dk_get dk_d06_641 16 rfl
theorem dX12_keepsLaw_110 : decode cX12_keepsLaw 110 = .ok (.getfield 52, 3) := dk_get dk_d06_641 17 rfl
theorem dX12_keepsLaw_113 : decode cX12_keepsLaw 113 = .ok (.iload_n 1, 1) := dk_get dk_d06_641 18 rfl
theorem dX12_keepsLaw_114 : decode cX12_keepsLaw 114 = .ok (.iaload, 1) := dk_get dk_d06_641 19 rfl
theorem dX12_keepsLaw_115 : decode cX12_keepsLaw 115 = .ok (.invokevirtual 538, 3) := dk_get dk_d06_641 20 rfl
theorem dX12_keepsLaw_118 : decode cX12_keepsLaw 118 = .ok (.iastore, 1) := dk_get dk_d06_641 21 rfl
theorem dX12_keepsLaw_119 : decode cX12_keepsLaw 119 = .ok (.aload_n 0, 1) := dk_get dk_d06_641 22 rfl
theorem dX12_keepsLaw_120 : decode cX12_keepsLaw 120 = .ok (.getfield 55, 3) := dk_get dk_d06_641 23 rfl
theorem dX12_keepsLaw_123 : decode cX12_keepsLaw 123 = .ok (.iload_n 1, 1) := dk_get dk_d06_641 24 rfl
theorem dk_d06_642 : dkc cX12_keepsLaw [(124, .aload_n 0, 1), (125, .aload_n 0, 1), (126, .getfield 55, 3), (129, .iload_n 1, 1), (130, .iaload, 1), (131, .invokevirtual 538, 3), (134, .iastore, 1), (135, .iinc 1 1, 3), (138, .goto (-42), 3), (141, .return_, 1)] = true := by decide +kernel
theorem dX12_keepsLaw_124 : decode cX12_keepsLaw 124 = .ok (.aload_n 0, 1) := dk_get dk_d06_642 0 rfl
theorem dX12_keepsLaw_125 : decode cX12_keepsLaw 125 = .ok (.aload_n 0, 1) := dk_get dk_d06_642 1 rfl
theorem dX12_keepsLaw_126 : decode cX12_keepsLaw 126 = .ok (.getfield 55, 3) := dk_get dk_d06_642 2 rfl
theorem dX12_keepsLaw_129 : decode cX12_keepsLaw 129 = .ok (.iload_n 1, 1) := dk_get dk_d06_642 3 rfl
theorem dX12_keepsLaw_130 : decode cX12_keepsLaw 130 = .ok (.iaload, 1) := dk_get dk_d06_642 4 rfl
theorem dX12_keepsLaw_131 : decode cX12_keepsLaw 131 = .ok (.invokevirtual 538, 3) := dk_get dk_d06_642 5 rfl
theorem dX12_keepsLaw_134 : decode cX12_keepsLaw 134 = .ok (.iastore, 1) := dk_get dk_d06_642 6 rfl
theorem dX12_keepsLaw_135 : decode cX12_keepsLaw 135 = .ok (.iinc 1 1, 3) := dk_get dk_d06_642 7 rfl
theorem dX12_keepsLaw_138 : decode cX12_keepsLaw 138 = .ok (.goto (-42), 3) := dk_get dk_d06_642 8 rfl
theorem dX12_keepsLaw_141 : decode cX12_keepsLaw 141 = .ok (.return_, 1) := dk_get dk_d06_642 9 rfl
theorem dk_d06_643 : dkc cX12_keepsMany [(0, .aload_n 0, 1), (1, .aload_n 0, 1), (2, .aload_n 0, 1), (3, .getfield 152, 3), (6, .invokevirtual 538, 3), (9, .putfield 152, 3), (12, .aload_n 0, 1), (13, .aload_n 0, 1), (14, .aload_n 0, 1), (15, .getfield 308, 3), (18, .invokevirtual 538, 3), (21, .putfield 308, 3), (24, .aload_n 0, 1), (25, .aload_n 0, 1), (26, .aload_n 0, 1), (27, .getfield 311, 3), (30, .invokevirtual 538, 3), (33, .putfield 311, 3), (36, .aload_n 0, 1), (37, .aload_n 0, 1), (38, .aload_n 0, 1), (39, .getfield 305, 3), (42, .invokevirtual 538, 3), (45, .putfield 305, 3), (48, .aload_n 0, 1)] = true := by decide +kernel
theorem dX12_keepsMany_0 : decode cX12_keepsMany 0 = .ok (.aload_n 0, 1) := dk_get dk_d06_643 0 rfl
theorem dX12_keepsMany_1 : decode cX12_keepsMany 1 = .ok (.aload_n 0, 1) := dk_get dk_d06_643 1 rfl
theorem dX12_keepsMany_2 : decode cX12_keepsMany 2 = .ok (.aload_n 0, 1) := dk_get dk_d06_643 2 rfl
theorem dX12_keepsMany_3 : decode cX12_keepsMany 3 = .ok (.getfield 152, 3) := dk_get dk_d06_643 3 rfl
theorem dX12_keepsMany_6 : decode cX12_keepsMany 6 = .ok (.invokevirtual 538, 3) := dk_get dk_d06_643 4 rfl
theorem dX12_keepsMany_9 : decode cX12_keepsMany 9 = .ok (.putfield 152, 3) := dk_get dk_d06_643 5 rfl
theorem dX12_keepsMany_12 : decode cX12_keepsMany 12 = .ok (.aload_n 0, 1) := dk_get dk_d06_643 6 rfl
theorem dX12_keepsMany_13 : decode cX12_keepsMany 13 = .ok (.aload_n 0, 1) := dk_get dk_d06_643 7 rfl
theorem dX12_keepsMany_14 : decode cX12_keepsMany 14 = .ok (.aload_n 0, 1) := dk_get dk_d06_643 8 rfl
theorem dX12_keepsMany_15 : decode cX12_keepsMany 15 = .ok (.getfield 308, 3) := dk_get dk_d06_643 9 rfl
theorem dX12_keepsMany_18 : decode cX12_keepsMany 18 = .ok (.invokevirtual 538, 3) := dk_get dk_d06_643 10 rfl
theorem dX12_keepsMany_21 : decode cX12_keepsMany 21 = .ok (.putfield 308, 3) := dk_get dk_d06_643 11 rfl
theorem dX12_keepsMany_24 : decode cX12_keepsMany 24 = .ok (.aload_n 0, 1) := dk_get dk_d06_643 12 rfl
theorem dX12_keepsMany_25 : decode cX12_keepsMany 25 = .ok (.aload_n 0, 1) := dk_get dk_d06_643 13 rfl
theorem dX12_keepsMany_26 : decode cX12_keepsMany 26 = .ok (.aload_n 0, 1) := dk_get dk_d06_643 14 rfl
theorem dX12_keepsMany_27 : decode cX12_keepsMany 27 = .ok (.getfield 311, 3) := dk_get dk_d06_643 15 rfl
theorem dX12_keepsMany_30 : decode cX12_keepsMany 30 = .ok (.invokevirtual 538, 3) := dk_get dk_d06_643 16 rfl
theorem dX12_keepsMany_33 : decode cX12_keepsMany 33 = .ok (.putfield 311, 3) := dk_get dk_d06_643 17 rfl
theorem dX12_keepsMany_36 : decode cX12_keepsMany 36 = .ok (.aload_n 0, 1) := dk_get dk_d06_643 18 rfl
theorem dX12_keepsMany_37 : decode cX12_keepsMany 37 = .ok (.aload_n 0, 1) := dk_get dk_d06_643 19 rfl
theorem dX12_keepsMany_38 : decode cX12_keepsMany 38 = .ok (.aload_n 0, 1) := dk_get dk_d06_643 20 rfl
theorem dX12_keepsMany_39 : decode cX12_keepsMany 39 = .ok (.getfield 305, 3) := dk_get dk_d06_643 21 rfl
theorem dX12_keepsMany_42 : decode cX12_keepsMany 42 = .ok (.invokevirtual 538, 3) := dk_get dk_d06_643 22 rfl
theorem dX12_keepsMany_45 : decode cX12_keepsMany 45 = .ok (.putfield 305, 3) := dk_get dk_d06_643 23 rfl
theorem dX12_keepsMany_48 : decode cX12_keepsMany 48 = .ok (.aload_n 0, 1) := dk_get dk_d06_643 24 rfl
theorem dk_d06_644 : dkc cX12_keepsMany [(49, .aload_n 0, 1), (50, .aload_n 0, 1), (51, .getfield 450, 3), (54, .invokevirtual 538, 3), (57, .putfield 450, 3), (60, .aload_n 0, 1), (61, .aload_n 0, 1), (62, .aload_n 0, 1), (63, .getfield 456, 3), (66, .invokevirtual 538, 3), (69, .putfield 456, 3), (72, .aload_n 0, 1), (73, .aload_n 0, 1), (74, .aload_n 0, 1), (75, .getfield 464, 3), (78, .invokevirtual 538, 3), (81, .putfield 464, 3), (84, .aload_n 0, 1), (85, .aload_n 0, 1), (86, .aload_n 0, 1), (87, .getfield 467, 3), (90, .invokevirtual 538, 3), (93, .putfield 467, 3), (96, .aload_n 0, 1), (97, .aload_n 0, 1)] = true := by decide +kernel
theorem dX12_keepsMany_49 : decode cX12_keepsMany 49 = .ok (.aload_n 0, 1) := dk_get dk_d06_644 0 rfl
theorem dX12_keepsMany_50 : decode cX12_keepsMany 50 = .ok (.aload_n 0, 1) := dk_get dk_d06_644 1 rfl
theorem dX12_keepsMany_51 : decode cX12_keepsMany 51 = .ok (.getfield 450, 3) := dk_get dk_d06_644 2 rfl
theorem dX12_keepsMany_54 : decode cX12_keepsMany 54 = .ok (.invokevirtual 538, 3) := dk_get dk_d06_644 3 rfl
theorem dX12_keepsMany_57 : decode cX12_keepsMany 57 = .ok (.putfield 450, 3) := dk_get dk_d06_644 4 rfl
theorem dX12_keepsMany_60 : decode cX12_keepsMany 60 = .ok (.aload_n 0, 1) := dk_get dk_d06_644 5 rfl
theorem dX12_keepsMany_61 : decode cX12_keepsMany 61 = .ok (.aload_n 0, 1) := dk_get dk_d06_644 6 rfl
theorem dX12_keepsMany_62 : decode cX12_keepsMany 62 = .ok (.aload_n 0, 1) := dk_get dk_d06_644 7 rfl
theorem dX12_keepsMany_63 : decode cX12_keepsMany 63 = .ok (.getfield 456, 3) := dk_get dk_d06_644 8 rfl
theorem dX12_keepsMany_66 : decode cX12_keepsMany 66 = .ok (.invokevirtual 538, 3) := dk_get dk_d06_644 9 rfl
theorem dX12_keepsMany_69 : decode cX12_keepsMany 69 = .ok (.putfield 456, 3) := dk_get dk_d06_644 10 rfl
theorem dX12_keepsMany_72 : decode cX12_keepsMany 72 = .ok (.aload_n 0, 1) := dk_get dk_d06_644 11 rfl
theorem dX12_keepsMany_73 : decode cX12_keepsMany 73 = .ok (.aload_n 0, 1) := dk_get dk_d06_644 12 rfl
theorem dX12_keepsMany_74 : decode cX12_keepsMany 74 = .ok (.aload_n 0, 1) := dk_get dk_d06_644 13 rfl
theorem dX12_keepsMany_75 : decode cX12_keepsMany 75 = .ok (.getfield 464, 3) := dk_get dk_d06_644 14 rfl
theorem dX12_keepsMany_78 : decode cX12_keepsMany 78 = .ok (.invokevirtual 538, 3) := dk_get dk_d06_644 15 rfl
theorem dX12_keepsMany_81 : decode cX12_keepsMany 81 = .ok (.putfield 464, 3) := dk_get dk_d06_644 16 rfl
theorem dX12_keepsMany_84 : decode cX12_keepsMany 84 = .ok (.aload_n 0, 1) := dk_get dk_d06_644 17 rfl
theorem dX12_keepsMany_85 : decode cX12_keepsMany 85 = .ok (.aload_n 0, 1) := dk_get dk_d06_644 18 rfl
theorem dX12_keepsMany_86 : decode cX12_keepsMany 86 = .ok (.aload_n 0, 1) := dk_get dk_d06_644 19 rfl
theorem dX12_keepsMany_87 : decode cX12_keepsMany 87 = .ok (.getfield 467, 3) := dk_get dk_d06_644 20 rfl
theorem dX12_keepsMany_90 : decode cX12_keepsMany 90 = .ok (.invokevirtual 538, 3) := dk_get dk_d06_644 21 rfl
theorem dX12_keepsMany_93 : decode cX12_keepsMany 93 = .ok (.putfield 467, 3) := dk_get dk_d06_644 22 rfl
theorem dX12_keepsMany_96 : decode cX12_keepsMany 96 = .ok (.aload_n 0, 1) := dk_get dk_d06_644 23 rfl
theorem dX12_keepsMany_97 : decode cX12_keepsMany 97 = .ok (.aload_n 0, 1) := dk_get dk_d06_644 24 rfl
theorem dk_d06_645 : dkc cX12_keepsMany [(98, .aload_n 0, 1), (99, .getfield 479, 3), (102, .invokevirtual 538, 3), (105, .putfield 479, 3), (108, .aload_n 0, 1), (109, .aload_n 0, 1), (110, .aload_n 0, 1), (111, .getfield 482, 3), (114, .invokevirtual 538, 3), (117, .putfield 482, 3), (120, .aload_n 0, 1), (121, .aload_n 0, 1), (122, .aload_n 0, 1), (123, .getfield 485, 3), (126, .invokevirtual 538, 3), (129, .putfield 485, 3), (132, .aload_n 0, 1), (133, .aload_n 0, 1), (134, .aload_n 0, 1), (135, .getfield 488, 3), (138, .invokevirtual 538, 3), (141, .putfield 488, 3), (144, .aload_n 0, 1), (145, .aload_n 0, 1), (146, .aload_n 0, 1)] = true := by decide +kernel
theorem dX12_keepsMany_98 : decode cX12_keepsMany 98 = .ok (.aload_n 0, 1) := dk_get dk_d06_645 0 rfl
theorem dX12_keepsMany_99 : decode cX12_keepsMany 99 = .ok (.getfield 479, 3) := dk_get dk_d06_645 1 rfl
theorem dX12_keepsMany_102 : decode cX12_keepsMany 102 = .ok (.invokevirtual 538, 3) := dk_get dk_d06_645 2 rfl
theorem dX12_keepsMany_105 : decode cX12_keepsMany 105 = .ok (.putfield 479, 3) := dk_get dk_d06_645 3 rfl
theorem dX12_keepsMany_108 : decode cX12_keepsMany 108 = .ok (.aload_n 0, 1) := dk_get dk_d06_645 4 rfl
theorem dX12_keepsMany_109 : decode cX12_keepsMany 109 = .ok (.aload_n 0, 1) := dk_get dk_d06_645 5 rfl
theorem dX12_keepsMany_110 : decode cX12_keepsMany 110 = .ok (.aload_n 0, 1) := dk_get dk_d06_645 6 rfl
theorem dX12_keepsMany_111 : decode cX12_keepsMany 111 = .ok (.getfield 482, 3) := dk_get dk_d06_645 7 rfl
theorem dX12_keepsMany_114 : decode cX12_keepsMany 114 = .ok (.invokevirtual 538, 3) := dk_get dk_d06_645 8 rfl
theorem dX12_keepsMany_117 : decode cX12_keepsMany 117 = .ok (.putfield 482, 3) := dk_get dk_d06_645 9 rfl
theorem dX12_keepsMany_120 : decode cX12_keepsMany 120 = .ok (.aload_n 0, 1) := dk_get dk_d06_645 10 rfl
theorem dX12_keepsMany_121 : decode cX12_keepsMany 121 = .ok (.aload_n 0, 1) := dk_get dk_d06_645 11 rfl
theorem dX12_keepsMany_122 : decode cX12_keepsMany 122 = .ok (.aload_n 0, 1) := dk_get dk_d06_645 12 rfl
theorem dX12_keepsMany_123 : decode cX12_keepsMany 123 = .ok (.getfield 485, 3) := dk_get dk_d06_645 13 rfl
theorem dX12_keepsMany_126 : decode cX12_keepsMany 126 = .ok (.invokevirtual 538, 3) := dk_get dk_d06_645 14 rfl
theorem dX12_keepsMany_129 : decode cX12_keepsMany 129 = .ok (.putfield 485, 3) := dk_get dk_d06_645 15 rfl
theorem dX12_keepsMany_132 : decode cX12_keepsMany 132 = .ok (.aload_n 0, 1) := dk_get dk_d06_645 16 rfl
theorem dX12_keepsMany_133 : decode cX12_keepsMany 133 = .ok (.aload_n 0, 1) := dk_get dk_d06_645 17 rfl
theorem dX12_keepsMany_134 : decode cX12_keepsMany 134 = .ok (.aload_n 0, 1) := dk_get dk_d06_645 18 rfl
theorem dX12_keepsMany_135 : decode cX12_keepsMany 135 = .ok (.getfield 488, 3) := dk_get dk_d06_645 19 rfl
theorem dX12_keepsMany_138 : decode cX12_keepsMany 138 = .ok (.invokevirtual 538, 3) := dk_get dk_d06_645 20 rfl
theorem dX12_keepsMany_141 : decode cX12_keepsMany 141 = .ok (.putfield 488, 3) := dk_get dk_d06_645 21 rfl
theorem dX12_keepsMany_144 : decode cX12_keepsMany 144 = .ok (.aload_n 0, 1) := dk_get dk_d06_645 22 rfl
theorem dX12_keepsMany_145 : decode cX12_keepsMany 145 = .ok (.aload_n 0, 1) := dk_get dk_d06_645 23 rfl
theorem dX12_keepsMany_146 : decode cX12_keepsMany 146 = .ok (.aload_n 0, 1) := dk_get dk_d06_645 24 rfl
theorem dk_d06_646 : dkc cX12_keepsMany [(147, .getfield 494, 3), (150, .invokevirtual 538, 3), (153, .putfield 494, 3), (156, .return_, 1)] = true := by decide +kernel
theorem dX12_keepsMany_147 : decode cX12_keepsMany 147 = .ok (.getfield 494, 3) := dk_get dk_d06_646 0 rfl
theorem dX12_keepsMany_150 : decode cX12_keepsMany 150 = .ok (.invokevirtual 538, 3) := dk_get dk_d06_646 1 rfl
theorem dX12_keepsMany_153 : decode cX12_keepsMany 153 = .ok (.putfield 494, 3) := dk_get dk_d06_646 2 rfl
theorem dX12_keepsMany_156 : decode cX12_keepsMany 156 = .ok (.return_, 1) := dk_get dk_d06_646 3 rfl
theorem dk_d06_647 : dkc cX12_keepsTold [(0, .iconst 0, 1), (1, .istore_n 1, 1), (2, .iload_n 1, 1), (3, .bipush 20, 2), (5, .if_icmp .ge 73, 3), (8, .aload_n 0, 1), (9, .getfield 19, 3), (12, .iload_n 1, 1), (13, .aload_n 0, 1), (14, .aload_n 0, 1), (15, .getfield 19, 3), (18, .iload_n 1, 1), (19, .iaload, 1), (20, .invokevirtual 538, 3), (23, .iastore, 1), (24, .aload_n 0, 1), (25, .getfield 22, 3), (28, .iload_n 1, 1), (29, .aload_n 0, 1), (30, .aload_n 0, 1), (31, .getfield 22, 3), (34, .iload_n 1, 1), (35, .iaload, 1), (36, .invokevirtual 538, 3), (39, .iastore, 1)] = true := by decide +kernel
theorem dX12_keepsTold_0 : decode cX12_keepsTold 0 = .ok (.iconst 0, 1) := dk_get dk_d06_647 0 rfl
theorem dX12_keepsTold_1 : decode cX12_keepsTold 1 = .ok (.istore_n 1, 1) := dk_get dk_d06_647 1 rfl
theorem dX12_keepsTold_2 : decode cX12_keepsTold 2 = .ok (.iload_n 1, 1) := dk_get dk_d06_647 2 rfl
theorem dX12_keepsTold_3 : decode cX12_keepsTold 3 = .ok (.bipush 20, 2) := dk_get dk_d06_647 3 rfl
theorem dX12_keepsTold_5 : decode cX12_keepsTold 5 = .ok (.if_icmp .ge 73, 3) := dk_get dk_d06_647 4 rfl
theorem dX12_keepsTold_8 : decode cX12_keepsTold 8 = .ok (.aload_n 0, 1) := dk_get dk_d06_647 5 rfl
theorem dX12_keepsTold_9 : decode cX12_keepsTold 9 = .ok (.getfield 19, 3) := dk_get dk_d06_647 6 rfl
theorem dX12_keepsTold_12 : decode cX12_keepsTold 12 = .ok (.iload_n 1, 1) := dk_get dk_d06_647 7 rfl
theorem dX12_keepsTold_13 : decode cX12_keepsTold 13 = .ok (.aload_n 0, 1) := dk_get dk_d06_647 8 rfl
theorem dX12_keepsTold_14 : decode cX12_keepsTold 14 = .ok (.aload_n 0, 1) := dk_get dk_d06_647 9 rfl
theorem dX12_keepsTold_15 : decode cX12_keepsTold 15 = .ok (.getfield 19, 3) := dk_get dk_d06_647 10 rfl
theorem dX12_keepsTold_18 : decode cX12_keepsTold 18 = .ok (.iload_n 1, 1) := dk_get dk_d06_647 11 rfl
theorem dX12_keepsTold_19 : decode cX12_keepsTold 19 = .ok (.iaload, 1) := dk_get dk_d06_647 12 rfl
theorem dX12_keepsTold_20 : decode cX12_keepsTold 20 = .ok (.invokevirtual 538, 3) := dk_get dk_d06_647 13 rfl
theorem dX12_keepsTold_23 : decode cX12_keepsTold 23 = .ok (.iastore, 1) := dk_get dk_d06_647 14 rfl
theorem dX12_keepsTold_24 : decode cX12_keepsTold 24 = .ok (.aload_n 0, 1) := dk_get dk_d06_647 15 rfl
theorem dX12_keepsTold_25 : decode cX12_keepsTold 25 = .ok (.getfield 22, 3) := dk_get dk_d06_647 16 rfl
theorem dX12_keepsTold_28 : decode cX12_keepsTold 28 = .ok (.iload_n 1, 1) := dk_get dk_d06_647 17 rfl
theorem dX12_keepsTold_29 : decode cX12_keepsTold 29 = .ok (.aload_n 0, 1) := dk_get dk_d06_647 18 rfl
theorem dX12_keepsTold_30 : decode cX12_keepsTold 30 = .ok (.aload_n 0, 1) := dk_get dk_d06_647 19 rfl
theorem dX12_keepsTold_31 : decode cX12_keepsTold 31 = .ok (.getfield 22, 3) := dk_get dk_d06_647 20 rfl
theorem dX12_keepsTold_34 : decode cX12_keepsTold 34 = .ok (.iload_n 1, 1) := dk_get dk_d06_647 21 rfl
theorem dX12_keepsTold_35 : decode cX12_keepsTold 35 = .ok (.iaload, 1) := dk_get dk_d06_647 22 rfl
theorem dX12_keepsTold_36 : decode cX12_keepsTold 36 = .ok (.invokevirtual 538, 3) := dk_get dk_d06_647 23 rfl
theorem dX12_keepsTold_39 : decode cX12_keepsTold 39 = .ok (.iastore, 1) := dk_get dk_d06_647 24 rfl
theorem dk_d06_648 : dkc cX12_keepsTold [(40, .aload_n 0, 1), (41, .getfield 25, 3), (44, .iload_n 1, 1), (45, .aload_n 0, 1), (46, .aload_n 0, 1), (47, .getfield 25, 3), (50, .iload_n 1, 1), (51, .iaload, 1), (52, .invokevirtual 538, 3), (55, .iastore, 1), (56, .aload_n 0, 1), (57, .getfield 71, 3), (60, .iload_n 1, 1), (61, .aload_n 0, 1), (62, .aload_n 0, 1), (63, .getfield 71, 3), (66, .iload_n 1, 1), (67, .iaload, 1), (68, .invokevirtual 538, 3), (71, .iastore, 1), (72, .iinc 1 1, 3), (75, .goto (-73), 3), (78, .iconst 0, 1), (79, .istore_n 1, 1), (80, .iload_n 1, 1)] = true := by decide +kernel
theorem dX12_keepsTold_40 : decode cX12_keepsTold 40 = .ok (.aload_n 0, 1) := dk_get dk_d06_648 0 rfl
theorem dX12_keepsTold_41 : decode cX12_keepsTold 41 = .ok (.getfield 25, 3) := dk_get dk_d06_648 1 rfl
theorem dX12_keepsTold_44 : decode cX12_keepsTold 44 = .ok (.iload_n 1, 1) := dk_get dk_d06_648 2 rfl
theorem dX12_keepsTold_45 : decode cX12_keepsTold 45 = .ok (.aload_n 0, 1) := dk_get dk_d06_648 3 rfl
theorem dX12_keepsTold_46 : decode cX12_keepsTold 46 = .ok (.aload_n 0, 1) := dk_get dk_d06_648 4 rfl
theorem dX12_keepsTold_47 : decode cX12_keepsTold 47 = .ok (.getfield 25, 3) := dk_get dk_d06_648 5 rfl
theorem dX12_keepsTold_50 : decode cX12_keepsTold 50 = .ok (.iload_n 1, 1) := dk_get dk_d06_648 6 rfl
theorem dX12_keepsTold_51 : decode cX12_keepsTold 51 = .ok (.iaload, 1) := dk_get dk_d06_648 7 rfl
theorem dX12_keepsTold_52 : decode cX12_keepsTold 52 = .ok (.invokevirtual 538, 3) := dk_get dk_d06_648 8 rfl
theorem dX12_keepsTold_55 : decode cX12_keepsTold 55 = .ok (.iastore, 1) := dk_get dk_d06_648 9 rfl
theorem dX12_keepsTold_56 : decode cX12_keepsTold 56 = .ok (.aload_n 0, 1) := dk_get dk_d06_648 10 rfl
theorem dX12_keepsTold_57 : decode cX12_keepsTold 57 = .ok (.getfield 71, 3) := dk_get dk_d06_648 11 rfl
theorem dX12_keepsTold_60 : decode cX12_keepsTold 60 = .ok (.iload_n 1, 1) := dk_get dk_d06_648 12 rfl
theorem dX12_keepsTold_61 : decode cX12_keepsTold 61 = .ok (.aload_n 0, 1) := dk_get dk_d06_648 13 rfl
theorem dX12_keepsTold_62 : decode cX12_keepsTold 62 = .ok (.aload_n 0, 1) := dk_get dk_d06_648 14 rfl
theorem dX12_keepsTold_63 : decode cX12_keepsTold 63 = .ok (.getfield 71, 3) := dk_get dk_d06_648 15 rfl
theorem dX12_keepsTold_66 : decode cX12_keepsTold 66 = .ok (.iload_n 1, 1) := dk_get dk_d06_648 16 rfl
theorem dX12_keepsTold_67 : decode cX12_keepsTold 67 = .ok (.iaload, 1) := dk_get dk_d06_648 17 rfl
theorem dX12_keepsTold_68 : decode cX12_keepsTold 68 = .ok (.invokevirtual 538, 3) := dk_get dk_d06_648 18 rfl
theorem dX12_keepsTold_71 : decode cX12_keepsTold 71 = .ok (.iastore, 1) := dk_get dk_d06_648 19 rfl
theorem dX12_keepsTold_72 : decode cX12_keepsTold 72 = .ok (.iinc 1 1, 3) := dk_get dk_d06_648 20 rfl
theorem dX12_keepsTold_75 : decode cX12_keepsTold 75 = .ok (.goto (-73), 3) := dk_get dk_d06_648 21 rfl
theorem dX12_keepsTold_78 : decode cX12_keepsTold 78 = .ok (.iconst 0, 1) := dk_get dk_d06_648 22 rfl
theorem dX12_keepsTold_79 : decode cX12_keepsTold 79 = .ok (.istore_n 1, 1) := dk_get dk_d06_648 23 rfl
theorem dX12_keepsTold_80 : decode cX12_keepsTold 80 = .ok (.iload_n 1, 1) := dk_get dk_d06_648 24 rfl
theorem dk_d06_649 : dkc cX12_keepsTold [(81, .bipush 6, 2), (83, .if_icmp .ge 25, 3), (86, .aload_n 0, 1), (87, .getfield 83, 3), (90, .iload_n 1, 1), (91, .aload_n 0, 1), (92, .aload_n 0, 1), (93, .getfield 83, 3), (96, .iload_n 1, 1), (97, .iaload, 1), (98, .invokevirtual 538, 3), (101, .iastore, 1), (102, .iinc 1 1, 3), (105, .goto (-25), 3), (108, .iconst 0, 1), (109, .istore_n 1, 1), (110, .iload_n 1, 1), (111, .bipush 16, 2), (113, .if_icmp .ge 25, 3), (116, .aload_n 0, 1), (117, .getfield 89, 3), (120, .iload_n 1, 1), (121, .aload_n 0, 1), (122, .aload_n 0, 1), (123, .getfield 89, 3)] = true := by decide +kernel
theorem dX12_keepsTold_81 : decode cX12_keepsTold 81 = .ok (.bipush 6, 2) := dk_get dk_d06_649 0 rfl
theorem dX12_keepsTold_83 : decode cX12_keepsTold 83 = .ok (.if_icmp .ge 25, 3) := dk_get dk_d06_649 1 rfl
theorem dX12_keepsTold_86 : decode cX12_keepsTold 86 = .ok (.aload_n 0, 1) := dk_get dk_d06_649 2 rfl
theorem dX12_keepsTold_87 : decode cX12_keepsTold 87 = .ok (.getfield 83, 3) := dk_get dk_d06_649 3 rfl
theorem dX12_keepsTold_90 : decode cX12_keepsTold 90 = .ok (.iload_n 1, 1) := dk_get dk_d06_649 4 rfl
theorem dX12_keepsTold_91 : decode cX12_keepsTold 91 = .ok (.aload_n 0, 1) := dk_get dk_d06_649 5 rfl
theorem dX12_keepsTold_92 : decode cX12_keepsTold 92 = .ok (.aload_n 0, 1) := dk_get dk_d06_649 6 rfl
theorem dX12_keepsTold_93 : decode cX12_keepsTold 93 = .ok (.getfield 83, 3) := dk_get dk_d06_649 7 rfl
theorem dX12_keepsTold_96 : decode cX12_keepsTold 96 = .ok (.iload_n 1, 1) := dk_get dk_d06_649 8 rfl
theorem dX12_keepsTold_97 : decode cX12_keepsTold 97 = .ok (.iaload, 1) := dk_get dk_d06_649 9 rfl
theorem dX12_keepsTold_98 : decode cX12_keepsTold 98 = .ok (.invokevirtual 538, 3) := dk_get dk_d06_649 10 rfl
theorem dX12_keepsTold_101 : decode cX12_keepsTold 101 = .ok (.iastore, 1) := dk_get dk_d06_649 11 rfl
theorem dX12_keepsTold_102 : decode cX12_keepsTold 102 = .ok (.iinc 1 1, 3) := dk_get dk_d06_649 12 rfl
theorem dX12_keepsTold_105 : decode cX12_keepsTold 105 = .ok (.goto (-25), 3) := dk_get dk_d06_649 13 rfl
theorem dX12_keepsTold_108 : decode cX12_keepsTold 108 = .ok (.iconst 0, 1) := dk_get dk_d06_649 14 rfl
theorem dX12_keepsTold_109 : decode cX12_keepsTold 109 = .ok (.istore_n 1, 1) := dk_get dk_d06_649 15 rfl
theorem dX12_keepsTold_110 : decode cX12_keepsTold 110 = .ok (.iload_n 1, 1) := dk_get dk_d06_649 16 rfl
theorem dX12_keepsTold_111 : decode cX12_keepsTold 111 = .ok (.bipush 16, 2) := dk_get dk_d06_649 17 rfl
theorem dX12_keepsTold_113 : decode cX12_keepsTold 113 = .ok (.if_icmp .ge 25, 3) := dk_get dk_d06_649 18 rfl
theorem dX12_keepsTold_116 : decode cX12_keepsTold 116 = .ok (.aload_n 0, 1) := dk_get dk_d06_649 19 rfl
theorem dX12_keepsTold_117 : decode cX12_keepsTold 117 = .ok (.getfield 89, 3) := dk_get dk_d06_649 20 rfl
theorem dX12_keepsTold_120 : decode cX12_keepsTold 120 = .ok (.iload_n 1, 1) := dk_get dk_d06_649 21 rfl
theorem dX12_keepsTold_121 : decode cX12_keepsTold 121 = .ok (.aload_n 0, 1) := dk_get dk_d06_649 22 rfl
theorem dX12_keepsTold_122 : decode cX12_keepsTold 122 = .ok (.aload_n 0, 1) := dk_get dk_d06_649 23 rfl
theorem dX12_keepsTold_123 : decode cX12_keepsTold 123 = .ok (.getfield 89, 3) := dk_get dk_d06_649 24 rfl
theorem dk_d06_650 : dkc cX12_keepsTold [(126, .iload_n 1, 1), (127, .iaload, 1), (128, .invokevirtual 538, 3), (131, .iastore, 1), (132, .iinc 1 1, 3), (135, .goto (-25), 3), (138, .iconst 0, 1), (139, .istore_n 1, 1), (140, .iload_n 1, 1), (141, .bipush 15, 2), (143, .if_icmp .ge 41, 3), (146, .aload_n 0, 1), (147, .getfield 98, 3), (150, .iload_n 1, 1), (151, .aload_n 0, 1), (152, .aload_n 0, 1), (153, .getfield 98, 3), (156, .iload_n 1, 1), (157, .iaload, 1), (158, .invokevirtual 538, 3), (161, .iastore, 1), (162, .aload_n 0, 1), (163, .getfield 101, 3), (166, .iload_n 1, 1), (167, .aload_n 0, 1)] = true := by decide +kernel
theorem dX12_keepsTold_126 : decode cX12_keepsTold 126 = .ok (.iload_n 1, 1) := dk_get dk_d06_650 0 rfl
theorem dX12_keepsTold_127 : decode cX12_keepsTold 127 = .ok (.iaload, 1) := dk_get dk_d06_650 1 rfl
theorem dX12_keepsTold_128 : decode cX12_keepsTold 128 = .ok (.invokevirtual 538, 3) := dk_get dk_d06_650 2 rfl
theorem dX12_keepsTold_131 : decode cX12_keepsTold 131 = .ok (.iastore, 1) := dk_get dk_d06_650 3 rfl
theorem dX12_keepsTold_132 : decode cX12_keepsTold 132 = .ok (.iinc 1 1, 3) := dk_get dk_d06_650 4 rfl
theorem dX12_keepsTold_135 : decode cX12_keepsTold 135 = .ok (.goto (-25), 3) := dk_get dk_d06_650 5 rfl
theorem dX12_keepsTold_138 : decode cX12_keepsTold 138 = .ok (.iconst 0, 1) := dk_get dk_d06_650 6 rfl
theorem dX12_keepsTold_139 : decode cX12_keepsTold 139 = .ok (.istore_n 1, 1) := dk_get dk_d06_650 7 rfl
theorem dX12_keepsTold_140 : decode cX12_keepsTold 140 = .ok (.iload_n 1, 1) := dk_get dk_d06_650 8 rfl
theorem dX12_keepsTold_141 : decode cX12_keepsTold 141 = .ok (.bipush 15, 2) := dk_get dk_d06_650 9 rfl
theorem dX12_keepsTold_143 : decode cX12_keepsTold 143 = .ok (.if_icmp .ge 41, 3) := dk_get dk_d06_650 10 rfl
theorem dX12_keepsTold_146 : decode cX12_keepsTold 146 = .ok (.aload_n 0, 1) := dk_get dk_d06_650 11 rfl
theorem dX12_keepsTold_147 : decode cX12_keepsTold 147 = .ok (.getfield 98, 3) := dk_get dk_d06_650 12 rfl
theorem dX12_keepsTold_150 : decode cX12_keepsTold 150 = .ok (.iload_n 1, 1) := dk_get dk_d06_650 13 rfl
theorem dX12_keepsTold_151 : decode cX12_keepsTold 151 = .ok (.aload_n 0, 1) := dk_get dk_d06_650 14 rfl
theorem dX12_keepsTold_152 : decode cX12_keepsTold 152 = .ok (.aload_n 0, 1) := dk_get dk_d06_650 15 rfl
theorem dX12_keepsTold_153 : decode cX12_keepsTold 153 = .ok (.getfield 98, 3) := dk_get dk_d06_650 16 rfl
theorem dX12_keepsTold_156 : decode cX12_keepsTold 156 = .ok (.iload_n 1, 1) := dk_get dk_d06_650 17 rfl
theorem dX12_keepsTold_157 : decode cX12_keepsTold 157 = .ok (.iaload, 1) := dk_get dk_d06_650 18 rfl
theorem dX12_keepsTold_158 : decode cX12_keepsTold 158 = .ok (.invokevirtual 538, 3) := dk_get dk_d06_650 19 rfl
theorem dX12_keepsTold_161 : decode cX12_keepsTold 161 = .ok (.iastore, 1) := dk_get dk_d06_650 20 rfl
theorem dX12_keepsTold_162 : decode cX12_keepsTold 162 = .ok (.aload_n 0, 1) := dk_get dk_d06_650 21 rfl
theorem dX12_keepsTold_163 : decode cX12_keepsTold 163 = .ok (.getfield 101, 3) := dk_get dk_d06_650 22 rfl
theorem dX12_keepsTold_166 : decode cX12_keepsTold 166 = .ok (.iload_n 1, 1) := dk_get dk_d06_650 23 rfl
theorem dX12_keepsTold_167 : decode cX12_keepsTold 167 = .ok (.aload_n 0, 1) := dk_get dk_d06_650 24 rfl
theorem dk_d06_651 : dkc cX12_keepsTold [(168, .aload_n 0, 1), (169, .getfield 101, 3), (172, .iload_n 1, 1), (173, .iaload, 1), (174, .invokevirtual 538, 3), (177, .iastore, 1), (178, .iinc 1 1, 3), (181, .goto (-41), 3), (184, .iconst 0, 1), (185, .istore_n 1, 1), (186, .iload_n 1, 1), (187, .bipush 8, 2), (189, .if_icmp .ge 89, 3), (192, .aload_n 0, 1), (193, .getfield 104, 3), (196, .iload_n 1, 1), (197, .aload_n 0, 1), (198, .aload_n 0, 1), (199, .getfield 104, 3), (202, .iload_n 1, 1), (203, .iaload, 1), (204, .invokevirtual 538, 3), (207, .iastore, 1), (208, .aload_n 0, 1), (209, .getfield 110, 3)] = true := by decide +kernel
theorem dX12_keepsTold_168 : decode cX12_keepsTold 168 = .ok (.aload_n 0, 1) := dk_get dk_d06_651 0 rfl
theorem dX12_keepsTold_169 : decode cX12_keepsTold 169 = .ok (.getfield 101, 3) := dk_get dk_d06_651 1 rfl
theorem dX12_keepsTold_172 : decode cX12_keepsTold 172 = .ok (.iload_n 1, 1) := dk_get dk_d06_651 2 rfl
theorem dX12_keepsTold_173 : decode cX12_keepsTold 173 = .ok (.iaload, 1) := dk_get dk_d06_651 3 rfl
theorem dX12_keepsTold_174 : decode cX12_keepsTold 174 = .ok (.invokevirtual 538, 3) := dk_get dk_d06_651 4 rfl
theorem dX12_keepsTold_177 : decode cX12_keepsTold 177 = .ok (.iastore, 1) := dk_get dk_d06_651 5 rfl
theorem dX12_keepsTold_178 : decode cX12_keepsTold 178 = .ok (.iinc 1 1, 3) := dk_get dk_d06_651 6 rfl
theorem dX12_keepsTold_181 : decode cX12_keepsTold 181 = .ok (.goto (-41), 3) := dk_get dk_d06_651 7 rfl
theorem dX12_keepsTold_184 : decode cX12_keepsTold 184 = .ok (.iconst 0, 1) := dk_get dk_d06_651 8 rfl
theorem dX12_keepsTold_185 : decode cX12_keepsTold 185 = .ok (.istore_n 1, 1) := dk_get dk_d06_651 9 rfl
theorem dX12_keepsTold_186 : decode cX12_keepsTold 186 = .ok (.iload_n 1, 1) := dk_get dk_d06_651 10 rfl
theorem dX12_keepsTold_187 : decode cX12_keepsTold 187 = .ok (.bipush 8, 2) := dk_get dk_d06_651 11 rfl
theorem dX12_keepsTold_189 : decode cX12_keepsTold 189 = .ok (.if_icmp .ge 89, 3) := dk_get dk_d06_651 12 rfl
theorem dX12_keepsTold_192 : decode cX12_keepsTold 192 = .ok (.aload_n 0, 1) := dk_get dk_d06_651 13 rfl
theorem dX12_keepsTold_193 : decode cX12_keepsTold 193 = .ok (.getfield 104, 3) := dk_get dk_d06_651 14 rfl
theorem dX12_keepsTold_196 : decode cX12_keepsTold 196 = .ok (.iload_n 1, 1) := dk_get dk_d06_651 15 rfl
theorem dX12_keepsTold_197 : decode cX12_keepsTold 197 = .ok (.aload_n 0, 1) := dk_get dk_d06_651 16 rfl
theorem dX12_keepsTold_198 : decode cX12_keepsTold 198 = .ok (.aload_n 0, 1) := dk_get dk_d06_651 17 rfl
theorem dX12_keepsTold_199 : decode cX12_keepsTold 199 = .ok (.getfield 104, 3) := dk_get dk_d06_651 18 rfl
theorem dX12_keepsTold_202 : decode cX12_keepsTold 202 = .ok (.iload_n 1, 1) := dk_get dk_d06_651 19 rfl
theorem dX12_keepsTold_203 : decode cX12_keepsTold 203 = .ok (.iaload, 1) := dk_get dk_d06_651 20 rfl
theorem dX12_keepsTold_204 : decode cX12_keepsTold 204 = .ok (.invokevirtual 538, 3) := dk_get dk_d06_651 21 rfl
theorem dX12_keepsTold_207 : decode cX12_keepsTold 207 = .ok (.iastore, 1) := dk_get dk_d06_651 22 rfl
theorem dX12_keepsTold_208 : decode cX12_keepsTold 208 = .ok (.aload_n 0, 1) := dk_get dk_d06_651 23 rfl
theorem dX12_keepsTold_209 : decode cX12_keepsTold 209 = .ok (.getfield 110, 3) := dk_get dk_d06_651 24 rfl
theorem dk_d06_652 : dkc cX12_keepsTold [(212, .iload_n 1, 1), (213, .aload_n 0, 1), (214, .aload_n 0, 1), (215, .getfield 110, 3), (218, .iload_n 1, 1), (219, .iaload, 1), (220, .invokevirtual 538, 3), (223, .iastore, 1), (224, .aload_n 0, 1), (225, .getfield 113, 3), (228, .iload_n 1, 1), (229, .aload_n 0, 1), (230, .aload_n 0, 1), (231, .getfield 113, 3), (234, .iload_n 1, 1), (235, .iaload, 1), (236, .invokevirtual 538, 3), (239, .iastore, 1), (240, .aload_n 0, 1), (241, .getfield 122, 3), (244, .iload_n 1, 1), (245, .aload_n 0, 1), (246, .aload_n 0, 1), (247, .getfield 122, 3), (250, .iload_n 1, 1)] = true := by decide +kernel
theorem dX12_keepsTold_212 : decode cX12_keepsTold 212 = .ok (.iload_n 1, 1) := dk_get dk_d06_652 0 rfl
theorem dX12_keepsTold_213 : decode cX12_keepsTold 213 = .ok (.aload_n 0, 1) := dk_get dk_d06_652 1 rfl
theorem dX12_keepsTold_214 : decode cX12_keepsTold 214 = .ok (.aload_n 0, 1) := dk_get dk_d06_652 2 rfl
theorem dX12_keepsTold_215 : decode cX12_keepsTold 215 = .ok (.getfield 110, 3) := dk_get dk_d06_652 3 rfl
theorem dX12_keepsTold_218 : decode cX12_keepsTold 218 = .ok (.iload_n 1, 1) := dk_get dk_d06_652 4 rfl
theorem dX12_keepsTold_219 : decode cX12_keepsTold 219 = .ok (.iaload, 1) := dk_get dk_d06_652 5 rfl
theorem dX12_keepsTold_220 : decode cX12_keepsTold 220 = .ok (.invokevirtual 538, 3) := dk_get dk_d06_652 6 rfl
theorem dX12_keepsTold_223 : decode cX12_keepsTold 223 = .ok (.iastore, 1) := dk_get dk_d06_652 7 rfl
theorem dX12_keepsTold_224 : decode cX12_keepsTold 224 = .ok (.aload_n 0, 1) := dk_get dk_d06_652 8 rfl
theorem dX12_keepsTold_225 : decode cX12_keepsTold 225 = .ok (.getfield 113, 3) := dk_get dk_d06_652 9 rfl
theorem dX12_keepsTold_228 : decode cX12_keepsTold 228 = .ok (.iload_n 1, 1) := dk_get dk_d06_652 10 rfl
theorem dX12_keepsTold_229 : decode cX12_keepsTold 229 = .ok (.aload_n 0, 1) := dk_get dk_d06_652 11 rfl
theorem dX12_keepsTold_230 : decode cX12_keepsTold 230 = .ok (.aload_n 0, 1) := dk_get dk_d06_652 12 rfl
theorem dX12_keepsTold_231 : decode cX12_keepsTold 231 = .ok (.getfield 113, 3) := dk_get dk_d06_652 13 rfl
theorem dX12_keepsTold_234 : decode cX12_keepsTold 234 = .ok (.iload_n 1, 1) := dk_get dk_d06_652 14 rfl
theorem dX12_keepsTold_235 : decode cX12_keepsTold 235 = .ok (.iaload, 1) := dk_get dk_d06_652 15 rfl
theorem dX12_keepsTold_236 : decode cX12_keepsTold 236 = .ok (.invokevirtual 538, 3) := dk_get dk_d06_652 16 rfl
theorem dX12_keepsTold_239 : decode cX12_keepsTold 239 = .ok (.iastore, 1) := dk_get dk_d06_652 17 rfl
theorem dX12_keepsTold_240 : decode cX12_keepsTold 240 = .ok (.aload_n 0, 1) := dk_get dk_d06_652 18 rfl
theorem dX12_keepsTold_241 : decode cX12_keepsTold 241 = .ok (.getfield 122, 3) := dk_get dk_d06_652 19 rfl
theorem dX12_keepsTold_244 : decode cX12_keepsTold 244 = .ok (.iload_n 1, 1) := dk_get dk_d06_652 20 rfl
theorem dX12_keepsTold_245 : decode cX12_keepsTold 245 = .ok (.aload_n 0, 1) := dk_get dk_d06_652 21 rfl
theorem dX12_keepsTold_246 : decode cX12_keepsTold 246 = .ok (.aload_n 0, 1) := dk_get dk_d06_652 22 rfl
theorem dX12_keepsTold_247 : decode cX12_keepsTold 247 = .ok (.getfield 122, 3) := dk_get dk_d06_652 23 rfl
theorem dX12_keepsTold_250 : decode cX12_keepsTold 250 = .ok (.iload_n 1, 1) := dk_get dk_d06_652 24 rfl
theorem dk_d06_653 : dkc cX12_keepsTold [(251, .iaload, 1), (252, .invokevirtual 538, 3), (255, .iastore, 1), (256, .aload_n 0, 1), (257, .getfield 125, 3), (260, .iload_n 1, 1), (261, .aload_n 0, 1), (262, .aload_n 0, 1), (263, .getfield 125, 3), (266, .iload_n 1, 1), (267, .iaload, 1), (268, .invokevirtual 538, 3), (271, .iastore, 1), (272, .iinc 1 1, 3), (275, .goto (-89), 3), (278, .iconst 0, 1), (279, .istore_n 1, 1), (280, .iload_n 1, 1), (281, .bipush 12, 2), (283, .if_icmp .ge 25, 3), (286, .aload_n 0, 1), (287, .getfield 119, 3), (290, .iload_n 1, 1), (291, .aload_n 0, 1), (292, .aload_n 0, 1)] = true := by decide +kernel
theorem dX12_keepsTold_251 : decode cX12_keepsTold 251 = .ok (.iaload, 1) := dk_get dk_d06_653 0 rfl
theorem dX12_keepsTold_252 : decode cX12_keepsTold 252 = .ok (.invokevirtual 538, 3) := dk_get dk_d06_653 1 rfl
theorem dX12_keepsTold_255 : decode cX12_keepsTold 255 = .ok (.iastore, 1) := dk_get dk_d06_653 2 rfl
theorem dX12_keepsTold_256 : decode cX12_keepsTold 256 = .ok (.aload_n 0, 1) := dk_get dk_d06_653 3 rfl
theorem dX12_keepsTold_257 : decode cX12_keepsTold 257 = .ok (.getfield 125, 3) := dk_get dk_d06_653 4 rfl
theorem dX12_keepsTold_260 : decode cX12_keepsTold 260 = .ok (.iload_n 1, 1) := dk_get dk_d06_653 5 rfl
theorem dX12_keepsTold_261 : decode cX12_keepsTold 261 = .ok (.aload_n 0, 1) := dk_get dk_d06_653 6 rfl
theorem dX12_keepsTold_262 : decode cX12_keepsTold 262 = .ok (.aload_n 0, 1) := dk_get dk_d06_653 7 rfl
theorem dX12_keepsTold_263 : decode cX12_keepsTold 263 = .ok (.getfield 125, 3) := dk_get dk_d06_653 8 rfl
theorem dX12_keepsTold_266 : decode cX12_keepsTold 266 = .ok (.iload_n 1, 1) := dk_get dk_d06_653 9 rfl
theorem dX12_keepsTold_267 : decode cX12_keepsTold 267 = .ok (.iaload, 1) := dk_get dk_d06_653 10 rfl
theorem dX12_keepsTold_268 : decode cX12_keepsTold 268 = .ok (.invokevirtual 538, 3) := dk_get dk_d06_653 11 rfl
theorem dX12_keepsTold_271 : decode cX12_keepsTold 271 = .ok (.iastore, 1) := dk_get dk_d06_653 12 rfl
theorem dX12_keepsTold_272 : decode cX12_keepsTold 272 = .ok (.iinc 1 1, 3) := dk_get dk_d06_653 13 rfl
theorem dX12_keepsTold_275 : decode cX12_keepsTold 275 = .ok (.goto (-89), 3) := dk_get dk_d06_653 14 rfl
theorem dX12_keepsTold_278 : decode cX12_keepsTold 278 = .ok (.iconst 0, 1) := dk_get dk_d06_653 15 rfl
theorem dX12_keepsTold_279 : decode cX12_keepsTold 279 = .ok (.istore_n 1, 1) := dk_get dk_d06_653 16 rfl
theorem dX12_keepsTold_280 : decode cX12_keepsTold 280 = .ok (.iload_n 1, 1) := dk_get dk_d06_653 17 rfl
theorem dX12_keepsTold_281 : decode cX12_keepsTold 281 = .ok (.bipush 12, 2) := dk_get dk_d06_653 18 rfl
theorem dX12_keepsTold_283 : decode cX12_keepsTold 283 = .ok (.if_icmp .ge 25, 3) := dk_get dk_d06_653 19 rfl
theorem dX12_keepsTold_286 : decode cX12_keepsTold 286 = .ok (.aload_n 0, 1) := dk_get dk_d06_653 20 rfl
theorem dX12_keepsTold_287 : decode cX12_keepsTold 287 = .ok (.getfield 119, 3) := dk_get dk_d06_653 21 rfl
theorem dX12_keepsTold_290 : decode cX12_keepsTold 290 = .ok (.iload_n 1, 1) := dk_get dk_d06_653 22 rfl
theorem dX12_keepsTold_291 : decode cX12_keepsTold 291 = .ok (.aload_n 0, 1) := dk_get dk_d06_653 23 rfl
theorem dX12_keepsTold_292 : decode cX12_keepsTold 292 = .ok (.aload_n 0, 1) := dk_get dk_d06_653 24 rfl
theorem dk_d06_654 : dkc cX12_keepsTold [(293, .getfield 119, 3), (296, .iload_n 1, 1), (297, .iaload, 1), (298, .invokevirtual 538, 3), (301, .iastore, 1), (302, .iinc 1 1, 3), (305, .goto (-25), 3), (308, .iconst 0, 1), (309, .istore_n 1, 1), (310, .iload_n 1, 1), (311, .bipush 48, 2), (313, .if_icmp .ge 25, 3), (316, .aload_n 0, 1), (317, .getfield 65, 3), (320, .iload_n 1, 1), (321, .aload_n 0, 1), (322, .aload_n 0, 1), (323, .getfield 65, 3), (326, .iload_n 1, 1), (327, .iaload, 1), (328, .invokevirtual 538, 3), (331, .iastore, 1), (332, .iinc 1 1, 3), (335, .goto (-25), 3), (338, .iconst 0, 1)] = true := by decide +kernel
theorem dX12_keepsTold_293 : decode cX12_keepsTold 293 = .ok (.getfield 119, 3) := dk_get dk_d06_654 0 rfl
theorem dX12_keepsTold_296 : decode cX12_keepsTold 296 = .ok (.iload_n 1, 1) := dk_get dk_d06_654 1 rfl
theorem dX12_keepsTold_297 : decode cX12_keepsTold 297 = .ok (.iaload, 1) := dk_get dk_d06_654 2 rfl
theorem dX12_keepsTold_298 : decode cX12_keepsTold 298 = .ok (.invokevirtual 538, 3) := dk_get dk_d06_654 3 rfl
theorem dX12_keepsTold_301 : decode cX12_keepsTold 301 = .ok (.iastore, 1) := dk_get dk_d06_654 4 rfl
theorem dX12_keepsTold_302 : decode cX12_keepsTold 302 = .ok (.iinc 1 1, 3) := dk_get dk_d06_654 5 rfl
theorem dX12_keepsTold_305 : decode cX12_keepsTold 305 = .ok (.goto (-25), 3) := dk_get dk_d06_654 6 rfl
theorem dX12_keepsTold_308 : decode cX12_keepsTold 308 = .ok (.iconst 0, 1) := dk_get dk_d06_654 7 rfl
theorem dX12_keepsTold_309 : decode cX12_keepsTold 309 = .ok (.istore_n 1, 1) := dk_get dk_d06_654 8 rfl
theorem dX12_keepsTold_310 : decode cX12_keepsTold 310 = .ok (.iload_n 1, 1) := dk_get dk_d06_654 9 rfl
theorem dX12_keepsTold_311 : decode cX12_keepsTold 311 = .ok (.bipush 48, 2) := dk_get dk_d06_654 10 rfl
theorem dX12_keepsTold_313 : decode cX12_keepsTold 313 = .ok (.if_icmp .ge 25, 3) := dk_get dk_d06_654 11 rfl
theorem dX12_keepsTold_316 : decode cX12_keepsTold 316 = .ok (.aload_n 0, 1) := dk_get dk_d06_654 12 rfl
theorem dX12_keepsTold_317 : decode cX12_keepsTold 317 = .ok (.getfield 65, 3) := dk_get dk_d06_654 13 rfl
theorem dX12_keepsTold_320 : decode cX12_keepsTold 320 = .ok (.iload_n 1, 1) := dk_get dk_d06_654 14 rfl
theorem dX12_keepsTold_321 : decode cX12_keepsTold 321 = .ok (.aload_n 0, 1) := dk_get dk_d06_654 15 rfl
theorem dX12_keepsTold_322 : decode cX12_keepsTold 322 = .ok (.aload_n 0, 1) := dk_get dk_d06_654 16 rfl
theorem dX12_keepsTold_323 : decode cX12_keepsTold 323 = .ok (.getfield 65, 3) := dk_get dk_d06_654 17 rfl
theorem dX12_keepsTold_326 : decode cX12_keepsTold 326 = .ok (.iload_n 1, 1) := dk_get dk_d06_654 18 rfl
theorem dX12_keepsTold_327 : decode cX12_keepsTold 327 = .ok (.iaload, 1) := dk_get dk_d06_654 19 rfl
theorem dX12_keepsTold_328 : decode cX12_keepsTold 328 = .ok (.invokevirtual 538, 3) := dk_get dk_d06_654 20 rfl
theorem dX12_keepsTold_331 : decode cX12_keepsTold 331 = .ok (.iastore, 1) := dk_get dk_d06_654 21 rfl
theorem dX12_keepsTold_332 : decode cX12_keepsTold 332 = .ok (.iinc 1 1, 3) := dk_get dk_d06_654 22 rfl
theorem dX12_keepsTold_335 : decode cX12_keepsTold 335 = .ok (.goto (-25), 3) := dk_get dk_d06_654 23 rfl
theorem dX12_keepsTold_338 : decode cX12_keepsTold 338 = .ok (.iconst 0, 1) := dk_get dk_d06_654 24 rfl
theorem dk_d06_655 : dkc cX12_keepsTold [(339, .istore_n 1, 1), (340, .iload_n 1, 1), (341, .bipush 80, 2), (343, .if_icmp .ge 25, 3), (346, .aload_n 0, 1), (347, .getfield 68, 3), (350, .iload_n 1, 1), (351, .aload_n 0, 1), (352, .aload_n 0, 1), (353, .getfield 68, 3), (356, .iload_n 1, 1), (357, .iaload, 1), (358, .invokevirtual 538, 3), (361, .iastore, 1), (362, .iinc 1 1, 3), (365, .goto (-25), 3), (368, .return_, 1)] = true := by decide +kernel
theorem dX12_keepsTold_339 : decode cX12_keepsTold 339 = .ok (.istore_n 1, 1) := dk_get dk_d06_655 0 rfl
theorem dX12_keepsTold_340 : decode cX12_keepsTold 340 = .ok (.iload_n 1, 1) := dk_get dk_d06_655 1 rfl
theorem dX12_keepsTold_341 : decode cX12_keepsTold 341 = .ok (.bipush 80, 2) := dk_get dk_d06_655 2 rfl
theorem dX12_keepsTold_343 : decode cX12_keepsTold 343 = .ok (.if_icmp .ge 25, 3) := dk_get dk_d06_655 3 rfl
theorem dX12_keepsTold_346 : decode cX12_keepsTold 346 = .ok (.aload_n 0, 1) := dk_get dk_d06_655 4 rfl
theorem dX12_keepsTold_347 : decode cX12_keepsTold 347 = .ok (.getfield 68, 3) := dk_get dk_d06_655 5 rfl
theorem dX12_keepsTold_350 : decode cX12_keepsTold 350 = .ok (.iload_n 1, 1) := dk_get dk_d06_655 6 rfl
theorem dX12_keepsTold_351 : decode cX12_keepsTold 351 = .ok (.aload_n 0, 1) := dk_get dk_d06_655 7 rfl
theorem dX12_keepsTold_352 : decode cX12_keepsTold 352 = .ok (.aload_n 0, 1) := dk_get dk_d06_655 8 rfl
theorem dX12_keepsTold_353 : decode cX12_keepsTold 353 = .ok (.getfield 68, 3) := dk_get dk_d06_655 9 rfl
theorem dX12_keepsTold_356 : decode cX12_keepsTold 356 = .ok (.iload_n 1, 1) := dk_get dk_d06_655 10 rfl
theorem dX12_keepsTold_357 : decode cX12_keepsTold 357 = .ok (.iaload, 1) := dk_get dk_d06_655 11 rfl
theorem dX12_keepsTold_358 : decode cX12_keepsTold 358 = .ok (.invokevirtual 538, 3) := dk_get dk_d06_655 12 rfl
theorem dX12_keepsTold_361 : decode cX12_keepsTold 361 = .ok (.iastore, 1) := dk_get dk_d06_655 13 rfl
theorem dX12_keepsTold_362 : decode cX12_keepsTold 362 = .ok (.iinc 1 1, 3) := dk_get dk_d06_655 14 rfl
theorem dX12_keepsTold_365 : decode cX12_keepsTold 365 = .ok (.goto (-25), 3) := dk_get dk_d06_655 15 rfl
theorem dX12_keepsTold_368 : decode cX12_keepsTold 368 = .ok (.return_, 1) := dk_get dk_d06_655 16 rfl
theorem dk_d06_656 : dkc cX12_image [(0, .aload_n 0, 1), (1, .iconst 0, 1), (2, .putfield 140, 3), (5, .iload_n 1, 1), (6, .ifCond .ne 12, 3), (9, .aload_n 0, 1), (10, .getfield 541, 3), (13, .ifCond .ne 5, 3), (16, .iconst 0, 1), (17, .ireturn, 1), (18, .aload_n 0, 1), (19, .iload_n 1, 1), (20, .putfield 535, 3), (23, .aload_n 0, 1), (24, .iconst 1, 1), (25, .putfield 541, 3), (28, .aload_n 0, 1), (29, .iconst 0, 1), (30, .putfield 532, 3), (33, .iconst 0, 1), (34, .istore_n 2, 1), (35, .iload_n 2, 1), (36, .sipush 499, 3), (39, .if_icmp .ge 25, 3), (42, .aload_n 0, 1)] = true := by decide +kernel
theorem dX12_image_0 : decode cX12_image 0 = .ok (.aload_n 0, 1) := dk_get dk_d06_656 0 rfl
theorem dX12_image_1 : decode cX12_image 1 = .ok (.iconst 0, 1) := dk_get dk_d06_656 1 rfl
theorem dX12_image_2 : decode cX12_image 2 = .ok (.putfield 140, 3) := dk_get dk_d06_656 2 rfl
theorem dX12_image_5 : decode cX12_image 5 = .ok (.iload_n 1, 1) := dk_get dk_d06_656 3 rfl
theorem dX12_image_6 : decode cX12_image 6 = .ok (.ifCond .ne 12, 3) := dk_get dk_d06_656 4 rfl
theorem dX12_image_9 : decode cX12_image 9 = .ok (.aload_n 0, 1) := dk_get dk_d06_656 5 rfl
theorem dX12_image_10 : decode cX12_image 10 = .ok (.getfield 541, 3) := dk_get dk_d06_656 6 rfl
theorem dX12_image_13 : decode cX12_image 13 = .ok (.ifCond .ne 5, 3) := dk_get dk_d06_656 7 rfl
theorem dX12_image_16 : decode cX12_image 16 = .ok (.iconst 0, 1) := dk_get dk_d06_656 8 rfl
theorem dX12_image_17 : decode cX12_image 17 = .ok (.ireturn, 1) := dk_get dk_d06_656 9 rfl
theorem dX12_image_18 : decode cX12_image 18 = .ok (.aload_n 0, 1) := dk_get dk_d06_656 10 rfl
theorem dX12_image_19 : decode cX12_image 19 = .ok (.iload_n 1, 1) := dk_get dk_d06_656 11 rfl
theorem dX12_image_20 : decode cX12_image 20 = .ok (.putfield 535, 3) := dk_get dk_d06_656 12 rfl
theorem dX12_image_23 : decode cX12_image 23 = .ok (.aload_n 0, 1) := dk_get dk_d06_656 13 rfl
theorem dX12_image_24 : decode cX12_image 24 = .ok (.iconst 1, 1) := dk_get dk_d06_656 14 rfl
theorem dX12_image_25 : decode cX12_image 25 = .ok (.putfield 541, 3) := dk_get dk_d06_656 15 rfl
theorem dX12_image_28 : decode cX12_image 28 = .ok (.aload_n 0, 1) := dk_get dk_d06_656 16 rfl
theorem dX12_image_29 : decode cX12_image 29 = .ok (.iconst 0, 1) := dk_get dk_d06_656 17 rfl
theorem dX12_image_30 : decode cX12_image 30 = .ok (.putfield 532, 3) := dk_get dk_d06_656 18 rfl
theorem dX12_image_33 : decode cX12_image 33 = .ok (.iconst 0, 1) := dk_get dk_d06_656 19 rfl
theorem dX12_image_34 : decode cX12_image 34 = .ok (.istore_n 2, 1) := dk_get dk_d06_656 20 rfl
theorem dX12_image_35 : decode cX12_image 35 = .ok (.iload_n 2, 1) := dk_get dk_d06_656 21 rfl
theorem dX12_image_36 : decode cX12_image 36 = .ok (.sipush 499, 3) := dk_get dk_d06_656 22 rfl
theorem dX12_image_39 : decode cX12_image 39 = .ok (.if_icmp .ge 25, 3) := dk_get dk_d06_656 23 rfl
theorem dX12_image_42 : decode cX12_image 42 = .ok (.aload_n 0, 1) := dk_get dk_d06_656 24 rfl
theorem dk_d06_657 : dkc cX12_image [(43, .getfield 7, 3), (46, .iload_n 2, 1), (47, .aload_n 0, 1), (48, .aload_n 0, 1), (49, .getfield 7, 3), (52, .iload_n 2, 1), (53, .iaload, 1), (54, .invokevirtual 538, 3), (57, .iastore, 1), (58, .iinc 2 1, 3), (61, .goto (-26), 3), (64, .aload_n 0, 1), (65, .invokevirtual 544, 3), (68, .aload_n 0, 1), (69, .invokevirtual 547, 3), (72, .iconst 0, 1), (73, .istore_n 2, 1), (74, .iload_n 2, 1), (75, .sipush 750, 3), (78, .if_icmp .ge 25, 3), (81, .aload_n 0, 1), (82, .getfield 28, 3), (85, .iload_n 2, 1), (86, .aload_n 0, 1), (87, .aload_n 0, 1)] = true := by decide +kernel
theorem dX12_image_43 : decode cX12_image 43 = .ok (.getfield 7, 3) := dk_get dk_d06_657 0 rfl
theorem dX12_image_46 : decode cX12_image 46 = .ok (.iload_n 2, 1) := dk_get dk_d06_657 1 rfl
theorem dX12_image_47 : decode cX12_image 47 = .ok (.aload_n 0, 1) := dk_get dk_d06_657 2 rfl
theorem dX12_image_48 : decode cX12_image 48 = .ok (.aload_n 0, 1) := dk_get dk_d06_657 3 rfl
theorem dX12_image_49 : decode cX12_image 49 = .ok (.getfield 7, 3) := dk_get dk_d06_657 4 rfl
theorem dX12_image_52 : decode cX12_image 52 = .ok (.iload_n 2, 1) := dk_get dk_d06_657 5 rfl
theorem dX12_image_53 : decode cX12_image 53 = .ok (.iaload, 1) := dk_get dk_d06_657 6 rfl
theorem dX12_image_54 : decode cX12_image 54 = .ok (.invokevirtual 538, 3) := dk_get dk_d06_657 7 rfl
theorem dX12_image_57 : decode cX12_image 57 = .ok (.iastore, 1) := dk_get dk_d06_657 8 rfl
theorem dX12_image_58 : decode cX12_image 58 = .ok (.iinc 2 1, 3) := dk_get dk_d06_657 9 rfl
theorem dX12_image_61 : decode cX12_image 61 = .ok (.goto (-26), 3) := dk_get dk_d06_657 10 rfl
theorem dX12_image_64 : decode cX12_image 64 = .ok (.aload_n 0, 1) := dk_get dk_d06_657 11 rfl
theorem dX12_image_65 : decode cX12_image 65 = .ok (.invokevirtual 544, 3) := dk_get dk_d06_657 12 rfl
theorem dX12_image_68 : decode cX12_image 68 = .ok (.aload_n 0, 1) := dk_get dk_d06_657 13 rfl
theorem dX12_image_69 : decode cX12_image 69 = .ok (.invokevirtual 547, 3) := dk_get dk_d06_657 14 rfl
theorem dX12_image_72 : decode cX12_image 72 = .ok (.iconst 0, 1) := dk_get dk_d06_657 15 rfl
theorem dX12_image_73 : decode cX12_image 73 = .ok (.istore_n 2, 1) := dk_get dk_d06_657 16 rfl
theorem dX12_image_74 : decode cX12_image 74 = .ok (.iload_n 2, 1) := dk_get dk_d06_657 17 rfl
theorem dX12_image_75 : decode cX12_image 75 = .ok (.sipush 750, 3) := dk_get dk_d06_657 18 rfl
theorem dX12_image_78 : decode cX12_image 78 = .ok (.if_icmp .ge 25, 3) := dk_get dk_d06_657 19 rfl
theorem dX12_image_81 : decode cX12_image 81 = .ok (.aload_n 0, 1) := dk_get dk_d06_657 20 rfl
theorem dX12_image_82 : decode cX12_image 82 = .ok (.getfield 28, 3) := dk_get dk_d06_657 21 rfl
theorem dX12_image_85 : decode cX12_image 85 = .ok (.iload_n 2, 1) := dk_get dk_d06_657 22 rfl
theorem dX12_image_86 : decode cX12_image 86 = .ok (.aload_n 0, 1) := dk_get dk_d06_657 23 rfl
theorem dX12_image_87 : decode cX12_image 87 = .ok (.aload_n 0, 1) := dk_get dk_d06_657 24 rfl
theorem dk_d06_658 : dkc cX12_image [(88, .getfield 28, 3), (91, .iload_n 2, 1), (92, .iaload, 1), (93, .invokevirtual 538, 3), (96, .iastore, 1), (97, .iinc 2 1, 3), (100, .goto (-26), 3), (103, .aload_n 0, 1), (104, .invokevirtual 550, 3), (107, .iload_n 1, 1), (108, .ifCond .ne 8, 3), (111, .aload_n 0, 1), (112, .iconst 0, 1), (113, .putfield 143, 3), (116, .iconst 1, 1), (117, .ireturn, 1)] = true := by decide +kernel
theorem dX12_image_88 : decode cX12_image 88 = .ok (.getfield 28, 3) := dk_get dk_d06_658 0 rfl
theorem dX12_image_91 : decode cX12_image 91 = .ok (.iload_n 2, 1) := dk_get dk_d06_658 1 rfl
theorem dX12_image_92 : decode cX12_image 92 = .ok (.iaload, 1) := dk_get dk_d06_658 2 rfl
theorem dX12_image_93 : decode cX12_image 93 = .ok (.invokevirtual 538, 3) := dk_get dk_d06_658 3 rfl
theorem dX12_image_96 : decode cX12_image 96 = .ok (.iastore, 1) := dk_get dk_d06_658 4 rfl
theorem dX12_image_97 : decode cX12_image 97 = .ok (.iinc 2 1, 3) := dk_get dk_d06_658 5 rfl
theorem dX12_image_100 : decode cX12_image 100 = .ok (.goto (-26), 3) := dk_get dk_d06_658 6 rfl
theorem dX12_image_103 : decode cX12_image 103 = .ok (.aload_n 0, 1) := dk_get dk_d06_658 7 rfl
theorem dX12_image_104 : decode cX12_image 104 = .ok (.invokevirtual 550, 3) := dk_get dk_d06_658 8 rfl
theorem dX12_image_107 : decode cX12_image 107 = .ok (.iload_n 1, 1) := dk_get dk_d06_658 9 rfl
theorem dX12_image_108 : decode cX12_image 108 = .ok (.ifCond .ne 8, 3) := dk_get dk_d06_658 10 rfl
theorem dX12_image_111 : decode cX12_image 111 = .ok (.aload_n 0, 1) := dk_get dk_d06_658 11 rfl
theorem dX12_image_112 : decode cX12_image 112 = .ok (.iconst 0, 1) := dk_get dk_d06_658 12 rfl
theorem dX12_image_113 : decode cX12_image 113 = .ok (.putfield 143, 3) := dk_get dk_d06_658 13 rfl
theorem dX12_image_116 : decode cX12_image 116 = .ok (.iconst 1, 1) := dk_get dk_d06_658 14 rfl
theorem dX12_image_117 : decode cX12_image 117 = .ok (.ireturn, 1) := dk_get dk_d06_658 15 rfl
theorem dk_d06_659 : dkc cX12_look [(0, .aload_n 0, 1), (1, .iconst 0, 1), (2, .putfield 140, 3), (5, .iload_n 1, 1), (6, .ifCond .ne 8, 3), (9, .aload_n 0, 1), (10, .getfield 152, 3), (13, .ireturn, 1), (14, .iload_n 1, 1), (15, .iconst 1, 1), (16, .if_icmp .ne 8, 3), (19, .aload_n 0, 1), (20, .invokevirtual 409, 3), (23, .ireturn, 1), (24, .iload_n 1, 1), (25, .iconst 2, 1), (26, .if_icmp .ne 10, 3), (29, .aload_n 0, 1), (30, .getfield 7, 3), (33, .iconst 4, 1), (34, .iaload, 1), (35, .ireturn, 1), (36, .iload_n 1, 1), (37, .iconst 3, 1), (38, .if_icmp .ne 10, 3)] = true := by decide +kernel
theorem dX12_look_0 : decode cX12_look 0 = .ok (.aload_n 0, 1) := dk_get dk_d06_659 0 rfl
theorem dX12_look_1 : decode cX12_look 1 = .ok (.iconst 0, 1) := dk_get dk_d06_659 1 rfl
theorem dX12_look_2 : decode cX12_look 2 = .ok (.putfield 140, 3) := dk_get dk_d06_659 2 rfl
theorem dX12_look_5 : decode cX12_look 5 = .ok (.iload_n 1, 1) := dk_get dk_d06_659 3 rfl
theorem dX12_look_6 : decode cX12_look 6 = .ok (.ifCond .ne 8, 3) := dk_get dk_d06_659 4 rfl
theorem dX12_look_9 : decode cX12_look 9 = .ok (.aload_n 0, 1) := dk_get dk_d06_659 5 rfl
theorem dX12_look_10 : decode cX12_look 10 = .ok (.getfield 152, 3) := dk_get dk_d06_659 6 rfl
theorem dX12_look_13 : decode cX12_look 13 = .ok (.ireturn, 1) := dk_get dk_d06_659 7 rfl
theorem dX12_look_14 : decode cX12_look 14 = .ok (.iload_n 1, 1) := dk_get dk_d06_659 8 rfl
theorem dX12_look_15 : decode cX12_look 15 = .ok (.iconst 1, 1) := dk_get dk_d06_659 9 rfl
theorem dX12_look_16 : decode cX12_look 16 = .ok (.if_icmp .ne 8, 3) := dk_get dk_d06_659 10 rfl
theorem dX12_look_19 : decode cX12_look 19 = .ok (.aload_n 0, 1) := dk_get dk_d06_659 11 rfl
theorem dX12_look_20 : decode cX12_look 20 = .ok (.invokevirtual 409, 3) := dk_get dk_d06_659 12 rfl
theorem dX12_look_23 : decode cX12_look 23 = .ok (.ireturn, 1) := dk_get dk_d06_659 13 rfl
theorem dX12_look_24 : decode cX12_look 24 = .ok (.iload_n 1, 1) := dk_get dk_d06_659 14 rfl
theorem dX12_look_25 : decode cX12_look 25 = .ok (.iconst 2, 1) := dk_get dk_d06_659 15 rfl
theorem dX12_look_26 : decode cX12_look 26 = .ok (.if_icmp .ne 10, 3) := dk_get dk_d06_659 16 rfl
theorem dX12_look_29 : decode cX12_look 29 = .ok (.aload_n 0, 1) := dk_get dk_d06_659 17 rfl
theorem dX12_look_30 : decode cX12_look 30 = .ok (.getfield 7, 3) := dk_get dk_d06_659 18 rfl
theorem dX12_look_33 : decode cX12_look 33 = .ok (.iconst 4, 1) := dk_get dk_d06_659 19 rfl
theorem dX12_look_34 : decode cX12_look 34 = .ok (.iaload, 1) := dk_get dk_d06_659 20 rfl
theorem dX12_look_35 : decode cX12_look 35 = .ok (.ireturn, 1) := dk_get dk_d06_659 21 rfl
theorem dX12_look_36 : decode cX12_look 36 = .ok (.iload_n 1, 1) := dk_get dk_d06_659 22 rfl
theorem dX12_look_37 : decode cX12_look 37 = .ok (.iconst 3, 1) := dk_get dk_d06_659 23 rfl
theorem dX12_look_38 : decode cX12_look 38 = .ok (.if_icmp .ne 10, 3) := dk_get dk_d06_659 24 rfl
theorem dk_d06_660 : dkc cX12_look [(41, .aload_n 0, 1), (42, .getfield 7, 3), (45, .iconst 1, 1), (46, .iaload, 1), (47, .ireturn, 1), (48, .iload_n 1, 1), (49, .iconst 4, 1), (50, .if_icmp .ne 10, 3), (53, .aload_n 0, 1), (54, .getfield 7, 3), (57, .iconst 0, 1), (58, .iaload, 1), (59, .ireturn, 1), (60, .iload_n 1, 1), (61, .iconst 5, 1), (62, .if_icmp .ne 10, 3), (65, .aload_n 0, 1), (66, .getfield 7, 3), (69, .iconst 5, 1), (70, .iaload, 1), (71, .ireturn, 1), (72, .iload_n 1, 1), (73, .bipush 6, 2), (75, .if_icmp .ne 11, 3), (78, .aload_n 0, 1)] = true := by decide +kernel
theorem dX12_look_41 : decode cX12_look 41 = .ok (.aload_n 0, 1) := dk_get dk_d06_660 0 rfl
theorem dX12_look_42 : decode cX12_look 42 = .ok (.getfield 7, 3) := dk_get dk_d06_660 1 rfl
theorem dX12_look_45 : decode cX12_look 45 = .ok (.iconst 1, 1) := dk_get dk_d06_660 2 rfl
theorem dX12_look_46 : decode cX12_look 46 = .ok (.iaload, 1) := dk_get dk_d06_660 3 rfl
theorem dX12_look_47 : decode cX12_look 47 = .ok (.ireturn, 1) := dk_get dk_d06_660 4 rfl
theorem dX12_look_48 : decode cX12_look 48 = .ok (.iload_n 1, 1) := dk_get dk_d06_660 5 rfl
theorem dX12_look_49 : decode cX12_look 49 = .ok (.iconst 4, 1) := dk_get dk_d06_660 6 rfl
theorem dX12_look_50 : decode cX12_look 50 = .ok (.if_icmp .ne 10, 3) := dk_get dk_d06_660 7 rfl
theorem dX12_look_53 : decode cX12_look 53 = .ok (.aload_n 0, 1) := dk_get dk_d06_660 8 rfl
theorem dX12_look_54 : decode cX12_look 54 = .ok (.getfield 7, 3) := dk_get dk_d06_660 9 rfl
theorem dX12_look_57 : decode cX12_look 57 = .ok (.iconst 0, 1) := dk_get dk_d06_660 10 rfl
theorem dX12_look_58 : decode cX12_look 58 = .ok (.iaload, 1) := dk_get dk_d06_660 11 rfl
theorem dX12_look_59 : decode cX12_look 59 = .ok (.ireturn, 1) := dk_get dk_d06_660 12 rfl
theorem dX12_look_60 : decode cX12_look 60 = .ok (.iload_n 1, 1) := dk_get dk_d06_660 13 rfl
theorem dX12_look_61 : decode cX12_look 61 = .ok (.iconst 5, 1) := dk_get dk_d06_660 14 rfl
theorem dX12_look_62 : decode cX12_look 62 = .ok (.if_icmp .ne 10, 3) := dk_get dk_d06_660 15 rfl
theorem dX12_look_65 : decode cX12_look 65 = .ok (.aload_n 0, 1) := dk_get dk_d06_660 16 rfl
theorem dX12_look_66 : decode cX12_look 66 = .ok (.getfield 7, 3) := dk_get dk_d06_660 17 rfl
theorem dX12_look_69 : decode cX12_look 69 = .ok (.iconst 5, 1) := dk_get dk_d06_660 18 rfl
theorem dX12_look_70 : decode cX12_look 70 = .ok (.iaload, 1) := dk_get dk_d06_660 19 rfl
theorem dX12_look_71 : decode cX12_look 71 = .ok (.ireturn, 1) := dk_get dk_d06_660 20 rfl
theorem dX12_look_72 : decode cX12_look 72 = .ok (.iload_n 1, 1) := dk_get dk_d06_660 21 rfl
theorem dX12_look_73 : decode cX12_look 73 = .ok (.bipush 6, 2) := dk_get dk_d06_660 22 rfl
theorem dX12_look_75 : decode cX12_look 75 = .ok (.if_icmp .ne 11, 3) := dk_get dk_d06_660 23 rfl
theorem dX12_look_78 : decode cX12_look 78 = .ok (.aload_n 0, 1) := dk_get dk_d06_660 24 rfl
theorem dk_d06_661 : dkc cX12_look [(79, .getfield 7, 3), (82, .bipush 6, 2), (84, .iaload, 1), (85, .ireturn, 1), (86, .iload_n 1, 1), (87, .bipush 7, 2), (89, .if_icmp .ne 10, 3), (92, .aload_n 0, 1), (93, .getfield 7, 3), (96, .iconst 3, 1), (97, .iaload, 1), (98, .ireturn, 1), (99, .iload_n 1, 1), (100, .bipush 8, 2), (102, .if_icmp .ne 10, 3), (105, .aload_n 0, 1), (106, .getfield 7, 3), (109, .iconst 2, 1), (110, .iaload, 1), (111, .ireturn, 1), (112, .iload_n 1, 1), (113, .bipush 9, 2), (115, .if_icmp .ne 10, 3), (118, .aload_n 0, 1), (119, .getfield 37, 3)] = true := by decide +kernel
theorem dX12_look_79 : decode cX12_look 79 = .ok (.getfield 7, 3) := dk_get dk_d06_661 0 rfl
theorem dX12_look_82 : decode cX12_look 82 = .ok (.bipush 6, 2) := dk_get dk_d06_661 1 rfl
theorem dX12_look_84 : decode cX12_look 84 = .ok (.iaload, 1) := dk_get dk_d06_661 2 rfl
theorem dX12_look_85 : decode cX12_look 85 = .ok (.ireturn, 1) := dk_get dk_d06_661 3 rfl
theorem dX12_look_86 : decode cX12_look 86 = .ok (.iload_n 1, 1) := dk_get dk_d06_661 4 rfl
theorem dX12_look_87 : decode cX12_look 87 = .ok (.bipush 7, 2) := dk_get dk_d06_661 5 rfl
theorem dX12_look_89 : decode cX12_look 89 = .ok (.if_icmp .ne 10, 3) := dk_get dk_d06_661 6 rfl
theorem dX12_look_92 : decode cX12_look 92 = .ok (.aload_n 0, 1) := dk_get dk_d06_661 7 rfl
theorem dX12_look_93 : decode cX12_look 93 = .ok (.getfield 7, 3) := dk_get dk_d06_661 8 rfl
theorem dX12_look_96 : decode cX12_look 96 = .ok (.iconst 3, 1) := dk_get dk_d06_661 9 rfl
theorem dX12_look_97 : decode cX12_look 97 = .ok (.iaload, 1) := dk_get dk_d06_661 10 rfl
theorem dX12_look_98 : decode cX12_look 98 = .ok (.ireturn, 1) := dk_get dk_d06_661 11 rfl
theorem dX12_look_99 : decode cX12_look 99 = .ok (.iload_n 1, 1) := dk_get dk_d06_661 12 rfl
theorem dX12_look_100 : decode cX12_look 100 = .ok (.bipush 8, 2) := dk_get dk_d06_661 13 rfl
theorem dX12_look_102 : decode cX12_look 102 = .ok (.if_icmp .ne 10, 3) := dk_get dk_d06_661 14 rfl
theorem dX12_look_105 : decode cX12_look 105 = .ok (.aload_n 0, 1) := dk_get dk_d06_661 15 rfl
theorem dX12_look_106 : decode cX12_look 106 = .ok (.getfield 7, 3) := dk_get dk_d06_661 16 rfl
theorem dX12_look_109 : decode cX12_look 109 = .ok (.iconst 2, 1) := dk_get dk_d06_661 17 rfl
theorem dX12_look_110 : decode cX12_look 110 = .ok (.iaload, 1) := dk_get dk_d06_661 18 rfl
theorem dX12_look_111 : decode cX12_look 111 = .ok (.ireturn, 1) := dk_get dk_d06_661 19 rfl
theorem dX12_look_112 : decode cX12_look 112 = .ok (.iload_n 1, 1) := dk_get dk_d06_661 20 rfl
theorem dX12_look_113 : decode cX12_look 113 = .ok (.bipush 9, 2) := dk_get dk_d06_661 21 rfl
theorem dX12_look_115 : decode cX12_look 115 = .ok (.if_icmp .ne 10, 3) := dk_get dk_d06_661 22 rfl
theorem dX12_look_118 : decode cX12_look 118 = .ok (.aload_n 0, 1) := dk_get dk_d06_661 23 rfl
theorem dX12_look_119 : decode cX12_look 119 = .ok (.getfield 37, 3) := dk_get dk_d06_661 24 rfl
theorem dk_d06_662 : dkc cX12_look [(122, .iconst 0, 1), (123, .iaload, 1), (124, .ireturn, 1), (125, .iload_n 1, 1), (126, .bipush 10, 2), (128, .if_icmp .ne 8, 3), (131, .aload_n 0, 1), (132, .getfield 308, 3), (135, .ireturn, 1), (136, .iload_n 1, 1), (137, .bipush 11, 2), (139, .if_icmp .ne 8, 3), (142, .aload_n 0, 1), (143, .getfield 311, 3), (146, .ireturn, 1), (147, .iload_n 1, 1), (148, .bipush 12, 2), (150, .if_icmp .ne 8, 3), (153, .aload_n 0, 1), (154, .getfield 305, 3), (157, .ireturn, 1), (158, .iload_n 1, 1), (159, .bipush 13, 2), (161, .if_icmp .ne 10, 3), (164, .aload_n 0, 1)] = true := by decide +kernel
theorem dX12_look_122 : decode cX12_look 122 = .ok (.iconst 0, 1) := dk_get dk_d06_662 0 rfl
theorem dX12_look_123 : decode cX12_look 123 = .ok (.iaload, 1) := dk_get dk_d06_662 1 rfl
theorem dX12_look_124 : decode cX12_look 124 = .ok (.ireturn, 1) := dk_get dk_d06_662 2 rfl
theorem dX12_look_125 : decode cX12_look 125 = .ok (.iload_n 1, 1) := dk_get dk_d06_662 3 rfl
theorem dX12_look_126 : decode cX12_look 126 = .ok (.bipush 10, 2) := dk_get dk_d06_662 4 rfl
theorem dX12_look_128 : decode cX12_look 128 = .ok (.if_icmp .ne 8, 3) := dk_get dk_d06_662 5 rfl
theorem dX12_look_131 : decode cX12_look 131 = .ok (.aload_n 0, 1) := dk_get dk_d06_662 6 rfl
theorem dX12_look_132 : decode cX12_look 132 = .ok (.getfield 308, 3) := dk_get dk_d06_662 7 rfl
theorem dX12_look_135 : decode cX12_look 135 = .ok (.ireturn, 1) := dk_get dk_d06_662 8 rfl
theorem dX12_look_136 : decode cX12_look 136 = .ok (.iload_n 1, 1) := dk_get dk_d06_662 9 rfl
theorem dX12_look_137 : decode cX12_look 137 = .ok (.bipush 11, 2) := dk_get dk_d06_662 10 rfl
theorem dX12_look_139 : decode cX12_look 139 = .ok (.if_icmp .ne 8, 3) := dk_get dk_d06_662 11 rfl
theorem dX12_look_142 : decode cX12_look 142 = .ok (.aload_n 0, 1) := dk_get dk_d06_662 12 rfl
theorem dX12_look_143 : decode cX12_look 143 = .ok (.getfield 311, 3) := dk_get dk_d06_662 13 rfl
theorem dX12_look_146 : decode cX12_look 146 = .ok (.ireturn, 1) := dk_get dk_d06_662 14 rfl
theorem dX12_look_147 : decode cX12_look 147 = .ok (.iload_n 1, 1) := dk_get dk_d06_662 15 rfl
theorem dX12_look_148 : decode cX12_look 148 = .ok (.bipush 12, 2) := dk_get dk_d06_662 16 rfl
theorem dX12_look_150 : decode cX12_look 150 = .ok (.if_icmp .ne 8, 3) := dk_get dk_d06_662 17 rfl
theorem dX12_look_153 : decode cX12_look 153 = .ok (.aload_n 0, 1) := dk_get dk_d06_662 18 rfl
theorem dX12_look_154 : decode cX12_look 154 = .ok (.getfield 305, 3) := dk_get dk_d06_662 19 rfl
theorem dX12_look_157 : decode cX12_look 157 = .ok (.ireturn, 1) := dk_get dk_d06_662 20 rfl
theorem dX12_look_158 : decode cX12_look 158 = .ok (.iload_n 1, 1) := dk_get dk_d06_662 21 rfl
theorem dX12_look_159 : decode cX12_look 159 = .ok (.bipush 13, 2) := dk_get dk_d06_662 22 rfl
theorem dX12_look_161 : decode cX12_look 161 = .ok (.if_icmp .ne 10, 3) := dk_get dk_d06_662 23 rfl
theorem dX12_look_164 : decode cX12_look 164 = .ok (.aload_n 0, 1) := dk_get dk_d06_662 24 rfl
theorem dk_d06_663 : dkc cX12_look [(165, .getfield 143, 3), (168, .goto 4, 3), (171, .iconst (-1), 1), (172, .ireturn, 1)] = true := by decide +kernel
theorem dX12_look_165 : decode cX12_look 165 = .ok (.getfield 143, 3) := dk_get dk_d06_663 0 rfl
theorem dX12_look_168 : decode cX12_look 168 = .ok (.goto 4, 3) := dk_get dk_d06_663 1 rfl
theorem dX12_look_171 : decode cX12_look 171 = .ok (.iconst (-1), 1) := dk_get dk_d06_663 2 rfl
theorem dX12_look_172 : decode cX12_look 172 = .ok (.ireturn, 1) := dk_get dk_d06_663 3 rfl
theorem dk_d06_664 : dkc cJ6_compare_7cf53 [(0, .iload_n 0, 1), (1, .iload_n 1, 1), (2, .if_icmp .ge 7, 3), (5, .iconst (-1), 1), (6, .goto 13, 3), (9, .iload_n 0, 1), (10, .iload_n 1, 1), (11, .if_icmp .ne 7, 3), (14, .iconst 0, 1), (15, .goto 4, 3), (18, .iconst 1, 1), (19, .ireturn, 1)] = true := by decide +kernel
theorem dJ6_compare_7cf53_0 : decode cJ6_compare_7cf53 0 = .ok (.iload_n 0, 1) := dk_get dk_d06_664 0 rfl
theorem dJ6_compare_7cf53_1 : decode cJ6_compare_7cf53 1 = .ok (.iload_n 1, 1) := dk_get dk_d06_664 1 rfl
theorem dJ6_compare_7cf53_2 : decode cJ6_compare_7cf53 2 = .ok (.if_icmp .ge 7, 3) := dk_get dk_d06_664 2 rfl
theorem dJ6_compare_7cf53_5 : decode cJ6_compare_7cf53 5 = .ok (.iconst (-1), 1) := dk_get dk_d06_664 3 rfl
theorem dJ6_compare_7cf53_6 : decode cJ6_compare_7cf53 6 = .ok (.goto 13, 3) := dk_get dk_d06_664 4 rfl
theorem dJ6_compare_7cf53_9 : decode cJ6_compare_7cf53 9 = .ok (.iload_n 0, 1) := dk_get dk_d06_664 5 rfl
theorem dJ6_compare_7cf53_10 : decode cJ6_compare_7cf53 10 = .ok (.iload_n 1, 1) := dk_get dk_d06_664 6 rfl
theorem dJ6_compare_7cf53_11 : decode cJ6_compare_7cf53 11 = .ok (.if_icmp .ne 7, 3) := dk_get dk_d06_664 7 rfl
theorem dJ6_compare_7cf53_14 : decode cJ6_compare_7cf53 14 = .ok (.iconst 0, 1) := dk_get dk_d06_664 8 rfl
theorem dJ6_compare_7cf53_15 : decode cJ6_compare_7cf53 15 = .ok (.goto 4, 3) := dk_get dk_d06_664 9 rfl
theorem dJ6_compare_7cf53_18 : decode cJ6_compare_7cf53 18 = .ok (.iconst 1, 1) := dk_get dk_d06_664 10 rfl
theorem dJ6_compare_7cf53_19 : decode cJ6_compare_7cf53 19 = .ok (.ireturn, 1) := dk_get dk_d06_664 11 rfl
theorem dk_d06_665 : dkc cJ6_bitCount_0f7a4 [(0, .iload_n 0, 1), (1, .iload_n 0, 1), (2, .iconst 1, 1), (3, .iushr, 1), (4, .ldc_w 265, 3), (7, .iand, 1), (8, .isub, 1), (9, .istore_n 0, 1), (10, .iload_n 0, 1), (11, .ldc_w 266, 3), (14, .iand, 1), (15, .iload_n 0, 1), (16, .iconst 2, 1), (17, .iushr, 1), (18, .ldc_w 266, 3), (21, .iand, 1), (22, .iadd, 1), (23, .istore_n 0, 1), (24, .iload_n 0, 1), (25, .iload_n 0, 1), (26, .iconst 4, 1), (27, .iushr, 1), (28, .iadd, 1), (29, .ldc_w 267, 3), (32, .iand, 1)] = true := by decide +kernel
theorem dJ6_bitCount_0f7a4_0 : decode cJ6_bitCount_0f7a4 0 = .ok (.iload_n 0, 1) := dk_get dk_d06_665 0 rfl
theorem dJ6_bitCount_0f7a4_1 : decode cJ6_bitCount_0f7a4 1 = .ok (.iload_n 0, 1) := dk_get dk_d06_665 1 rfl
theorem dJ6_bitCount_0f7a4_2 : decode cJ6_bitCount_0f7a4 2 = .ok (.iconst 1, 1) := dk_get dk_d06_665 2 rfl
theorem dJ6_bitCount_0f7a4_3 : decode cJ6_bitCount_0f7a4 3 = .ok (.iushr, 1) := dk_get dk_d06_665 3 rfl
theorem dJ6_bitCount_0f7a4_4 : decode cJ6_bitCount_0f7a4 4 = .ok (.ldc_w 265, 3) := dk_get dk_d06_665 4 rfl
theorem dJ6_bitCount_0f7a4_7 : decode cJ6_bitCount_0f7a4 7 = .ok (.iand, 1) := dk_get dk_d06_665 5 rfl
theorem dJ6_bitCount_0f7a4_8 : decode cJ6_bitCount_0f7a4 8 = .ok (.isub, 1) := dk_get dk_d06_665 6 rfl
theorem dJ6_bitCount_0f7a4_9 : decode cJ6_bitCount_0f7a4 9 = .ok (.istore_n 0, 1) := dk_get dk_d06_665 7 rfl
theorem dJ6_bitCount_0f7a4_10 : decode cJ6_bitCount_0f7a4 10 = .ok (.iload_n 0, 1) := dk_get dk_d06_665 8 rfl
theorem dJ6_bitCount_0f7a4_11 : decode cJ6_bitCount_0f7a4 11 = .ok (.ldc_w 266, 3) := dk_get dk_d06_665 9 rfl
theorem dJ6_bitCount_0f7a4_14 : decode cJ6_bitCount_0f7a4 14 = .ok (.iand, 1) := dk_get dk_d06_665 10 rfl
theorem dJ6_bitCount_0f7a4_15 : decode cJ6_bitCount_0f7a4 15 = .ok (.iload_n 0, 1) := dk_get dk_d06_665 11 rfl
theorem dJ6_bitCount_0f7a4_16 : decode cJ6_bitCount_0f7a4 16 = .ok (.iconst 2, 1) := dk_get dk_d06_665 12 rfl
theorem dJ6_bitCount_0f7a4_17 : decode cJ6_bitCount_0f7a4 17 = .ok (.iushr, 1) := dk_get dk_d06_665 13 rfl
theorem dJ6_bitCount_0f7a4_18 : decode cJ6_bitCount_0f7a4 18 = .ok (.ldc_w 266, 3) := dk_get dk_d06_665 14 rfl
theorem dJ6_bitCount_0f7a4_21 : decode cJ6_bitCount_0f7a4 21 = .ok (.iand, 1) := dk_get dk_d06_665 15 rfl
theorem dJ6_bitCount_0f7a4_22 : decode cJ6_bitCount_0f7a4 22 = .ok (.iadd, 1) := dk_get dk_d06_665 16 rfl
theorem dJ6_bitCount_0f7a4_23 : decode cJ6_bitCount_0f7a4 23 = .ok (.istore_n 0, 1) := dk_get dk_d06_665 17 rfl
theorem dJ6_bitCount_0f7a4_24 : decode cJ6_bitCount_0f7a4 24 = .ok (.iload_n 0, 1) := dk_get dk_d06_665 18 rfl
theorem dJ6_bitCount_0f7a4_25 : decode cJ6_bitCount_0f7a4 25 = .ok (.iload_n 0, 1) := dk_get dk_d06_665 19 rfl
theorem dJ6_bitCount_0f7a4_26 : decode cJ6_bitCount_0f7a4 26 = .ok (.iconst 4, 1) := dk_get dk_d06_665 20 rfl
theorem dJ6_bitCount_0f7a4_27 : decode cJ6_bitCount_0f7a4 27 = .ok (.iushr, 1) := dk_get dk_d06_665 21 rfl
theorem dJ6_bitCount_0f7a4_28 : decode cJ6_bitCount_0f7a4 28 = .ok (.iadd, 1) := dk_get dk_d06_665 22 rfl
theorem dJ6_bitCount_0f7a4_29 : decode cJ6_bitCount_0f7a4 29 = .ok (.ldc_w 267, 3) := dk_get dk_d06_665 23 rfl
theorem dJ6_bitCount_0f7a4_32 : decode cJ6_bitCount_0f7a4 32 = .ok (.iand, 1) := dk_get dk_d06_665 24 rfl
theorem dk_d06_666 : dkc cJ6_bitCount_0f7a4 [(33, .istore_n 0, 1), (34, .iload_n 0, 1), (35, .iload_n 0, 1), (36, .bipush 8, 2), (38, .iushr, 1), (39, .iadd, 1), (40, .istore_n 0, 1), (41, .iload_n 0, 1), (42, .iload_n 0, 1), (43, .bipush 16, 2), (45, .iushr, 1), (46, .iadd, 1), (47, .istore_n 0, 1), (48, .iload_n 0, 1), (49, .bipush 63, 2), (51, .iand, 1), (52, .ireturn, 1)] = true := by decide +kernel
theorem dJ6_bitCount_0f7a4_33 : decode cJ6_bitCount_0f7a4 33 = .ok (.istore_n 0, 1) := dk_get dk_d06_666 0 rfl
theorem dJ6_bitCount_0f7a4_34 : decode cJ6_bitCount_0f7a4 34 = .ok (.iload_n 0, 1) := dk_get dk_d06_666 1 rfl
theorem dJ6_bitCount_0f7a4_35 : decode cJ6_bitCount_0f7a4 35 = .ok (.iload_n 0, 1) := dk_get dk_d06_666 2 rfl
theorem dJ6_bitCount_0f7a4_36 : decode cJ6_bitCount_0f7a4 36 = .ok (.bipush 8, 2) := dk_get dk_d06_666 3 rfl
theorem dJ6_bitCount_0f7a4_38 : decode cJ6_bitCount_0f7a4 38 = .ok (.iushr, 1) := dk_get dk_d06_666 4 rfl
theorem dJ6_bitCount_0f7a4_39 : decode cJ6_bitCount_0f7a4 39 = .ok (.iadd, 1) := dk_get dk_d06_666 5 rfl
theorem dJ6_bitCount_0f7a4_40 : decode cJ6_bitCount_0f7a4 40 = .ok (.istore_n 0, 1) := dk_get dk_d06_666 6 rfl
theorem dJ6_bitCount_0f7a4_41 : decode cJ6_bitCount_0f7a4 41 = .ok (.iload_n 0, 1) := dk_get dk_d06_666 7 rfl
theorem dJ6_bitCount_0f7a4_42 : decode cJ6_bitCount_0f7a4 42 = .ok (.iload_n 0, 1) := dk_get dk_d06_666 8 rfl
theorem dJ6_bitCount_0f7a4_43 : decode cJ6_bitCount_0f7a4 43 = .ok (.bipush 16, 2) := dk_get dk_d06_666 9 rfl
theorem dJ6_bitCount_0f7a4_45 : decode cJ6_bitCount_0f7a4 45 = .ok (.iushr, 1) := dk_get dk_d06_666 10 rfl
theorem dJ6_bitCount_0f7a4_46 : decode cJ6_bitCount_0f7a4 46 = .ok (.iadd, 1) := dk_get dk_d06_666 11 rfl
theorem dJ6_bitCount_0f7a4_47 : decode cJ6_bitCount_0f7a4 47 = .ok (.istore_n 0, 1) := dk_get dk_d06_666 12 rfl
theorem dJ6_bitCount_0f7a4_48 : decode cJ6_bitCount_0f7a4 48 = .ok (.iload_n 0, 1) := dk_get dk_d06_666 13 rfl
theorem dJ6_bitCount_0f7a4_49 : decode cJ6_bitCount_0f7a4 49 = .ok (.bipush 63, 2) := dk_get dk_d06_666 14 rfl
theorem dJ6_bitCount_0f7a4_51 : decode cJ6_bitCount_0f7a4 51 = .ok (.iand, 1) := dk_get dk_d06_666 15 rfl
theorem dJ6_bitCount_0f7a4_52 : decode cJ6_bitCount_0f7a4 52 = .ok (.ireturn, 1) := dk_get dk_d06_666 16 rfl
theorem dk_d06_670 : dkc cJ0_length_8abf5 [(0, .aload_n 0, 1), (1, .getfield 9, 3), (4, .arraylength, 1), (5, .aload_n 0, 1), (6, .invokevirtual 335, 3), (9, .ishr, 1), (10, .ireturn, 1)] = true := by decide +kernel
theorem dJ0_length_8abf5_0 : decode cJ0_length_8abf5 0 = .ok (.aload_n 0, 1) := dk_get dk_d06_670 0 rfl
theorem dJ0_length_8abf5_1 : decode cJ0_length_8abf5 1 = .ok (.getfield 9, 3) := dk_get dk_d06_670 1 rfl
theorem dJ0_length_8abf5_4 : decode cJ0_length_8abf5 4 = .ok (.arraylength, 1) := dk_get dk_d06_670 2 rfl
theorem dJ0_length_8abf5_5 : decode cJ0_length_8abf5 5 = .ok (.aload_n 0, 1) := dk_get dk_d06_670 3 rfl
theorem dJ0_length_8abf5_6 : decode cJ0_length_8abf5 6 = .ok (.invokevirtual 335, 3) := dk_get dk_d06_670 4 rfl
theorem dJ0_length_8abf5_9 : decode cJ0_length_8abf5 9 = .ok (.ishr, 1) := dk_get dk_d06_670 5 rfl
theorem dJ0_length_8abf5_10 : decode cJ0_length_8abf5 10 = .ok (.ireturn, 1) := dk_get dk_d06_670 6 rfl
theorem dk_d06_671 : dkc cJ0_charAt_5068e [(0, .aload_n 0, 1), (1, .invokevirtual 492, 3), (4, .ifCond .eq 12, 3), (7, .aload_n 0, 1), (8, .getfield 9, 3), (11, .iload_n 1, 1), (12, .invokestatic 495, 3), (15, .ireturn, 1), (16, .aload_n 0, 1), (17, .getfield 9, 3), (20, .iload_n 1, 1), (21, .invokestatic 498, 3), (24, .ireturn, 1)] = true := by decide +kernel
theorem dJ0_charAt_5068e_0 : decode cJ0_charAt_5068e 0 = .ok (.aload_n 0, 1) := dk_get dk_d06_671 0 rfl
theorem dJ0_charAt_5068e_1 : decode cJ0_charAt_5068e 1 = .ok (.invokevirtual 492, 3) := dk_get dk_d06_671 1 rfl
theorem dJ0_charAt_5068e_4 : decode cJ0_charAt_5068e 4 = .ok (.ifCond .eq 12, 3) := dk_get dk_d06_671 2 rfl
theorem dJ0_charAt_5068e_7 : decode cJ0_charAt_5068e 7 = .ok (.aload_n 0, 1) := dk_get dk_d06_671 3 rfl
theorem dJ0_charAt_5068e_8 : decode cJ0_charAt_5068e 8 = .ok (.getfield 9, 3) := dk_get dk_d06_671 4 rfl
theorem dJ0_charAt_5068e_11 : decode cJ0_charAt_5068e 11 = .ok (.iload_n 1, 1) := dk_get dk_d06_671 5 rfl
theorem dJ0_charAt_5068e_12 : decode cJ0_charAt_5068e 12 = .ok (.invokestatic 495, 3) := dk_get dk_d06_671 6 rfl
theorem dJ0_charAt_5068e_15 : decode cJ0_charAt_5068e 15 = .ok (.ireturn, 1) := dk_get dk_d06_671 7 rfl
theorem dk_d06_672 : dkc cJ0_coder_7d493 [(0, .getstatic 38, 3), (3, .ifCond .eq 10, 3), (6, .aload_n 0, 1), (7, .getfield 15, 3), (10, .goto 4, 3), (13, .iconst 1, 1), (14, .ireturn, 1)] = true := by decide +kernel
theorem dJ0_coder_7d493_0 : decode cJ0_coder_7d493 0 = .ok (.getstatic 38, 3) := dk_get dk_d06_672 0 rfl
theorem dJ0_coder_7d493_3 : decode cJ0_coder_7d493 3 = .ok (.ifCond .eq 10, 3) := dk_get dk_d06_672 1 rfl
theorem dJ0_coder_7d493_6 : decode cJ0_coder_7d493 6 = .ok (.aload_n 0, 1) := dk_get dk_d06_672 2 rfl
theorem dJ0_coder_7d493_7 : decode cJ0_coder_7d493 7 = .ok (.getfield 15, 3) := dk_get dk_d06_672 3 rfl
theorem dJ0_coder_7d493_10 : decode cJ0_coder_7d493 10 = .ok (.goto 4, 3) := dk_get dk_d06_672 4 rfl
theorem dJ0_coder_7d493_14 : decode cJ0_coder_7d493 14 = .ok (.ireturn, 1) := dk_get dk_d06_672 6 rfl
theorem dk_d06_673 : dkc cJ0_isLatin1_aae02 [(0, .getstatic 38, 3), (3, .ifCond .eq 14, 3), (6, .aload_n 0, 1), (7, .getfield 15, 3), (10, .ifCond .ne 7, 3), (13, .iconst 1, 1), (14, .goto 4, 3), (17, .iconst 0, 1), (18, .ireturn, 1)] = true := by decide +kernel
theorem dJ0_isLatin1_aae02_0 : decode cJ0_isLatin1_aae02 0 = .ok (.getstatic 38, 3) := dk_get dk_d06_673 0 rfl
theorem dJ0_isLatin1_aae02_3 : decode cJ0_isLatin1_aae02 3 = .ok (.ifCond .eq 14, 3) := dk_get dk_d06_673 1 rfl
theorem dJ0_isLatin1_aae02_6 : decode cJ0_isLatin1_aae02 6 = .ok (.aload_n 0, 1) := dk_get dk_d06_673 2 rfl
theorem dJ0_isLatin1_aae02_7 : decode cJ0_isLatin1_aae02 7 = .ok (.getfield 15, 3) := dk_get dk_d06_673 3 rfl
theorem dJ0_isLatin1_aae02_10 : decode cJ0_isLatin1_aae02 10 = .ok (.ifCond .ne 7, 3) := dk_get dk_d06_673 4 rfl
theorem dJ0_isLatin1_aae02_13 : decode cJ0_isLatin1_aae02 13 = .ok (.iconst 1, 1) := dk_get dk_d06_673 5 rfl
theorem dJ0_isLatin1_aae02_14 : decode cJ0_isLatin1_aae02 14 = .ok (.goto 4, 3) := dk_get dk_d06_673 6 rfl
theorem dJ0_isLatin1_aae02_18 : decode cJ0_isLatin1_aae02 18 = .ok (.ireturn, 1) := dk_get dk_d06_673 8 rfl
theorem dk_d06_674 : dkc cJ0_checkIndex_df160 [(0, .iload_n 0, 1), (1, .iload_n 1, 1), (2, .getstatic 1053, 3), (5, .invokestatic 1059, 3), (8, .pop, 1), (9, .return_, 1)] = true := by decide +kernel
theorem dJ0_checkIndex_df160_0 : decode cJ0_checkIndex_df160 0 = .ok (.iload_n 0, 1) := dk_get dk_d06_674 0 rfl
theorem dJ0_checkIndex_df160_1 : decode cJ0_checkIndex_df160 1 = .ok (.iload_n 1, 1) := dk_get dk_d06_674 1 rfl
theorem dJ0_checkIndex_df160_2 : decode cJ0_checkIndex_df160 2 = .ok (.getstatic 1053, 3) := dk_get dk_d06_674 2 rfl
theorem dJ0_checkIndex_df160_5 : decode cJ0_checkIndex_df160 5 = .ok (.invokestatic 1059, 3) := dk_get dk_d06_674 3 rfl
theorem dJ0_checkIndex_df160_8 : decode cJ0_checkIndex_df160 8 = .ok (.pop, 1) := dk_get dk_d06_674 4 rfl
theorem dJ0_checkIndex_df160_9 : decode cJ0_checkIndex_df160 9 = .ok (.return_, 1) := dk_get dk_d06_674 5 rfl
theorem dk_d06_675 : dkc cJ1_charAt_3b067 [(0, .iload_n 1, 1), (1, .aload_n 0, 1), (2, .arraylength, 1), (3, .invokestatic 9, 3), (6, .aload_n 0, 1), (7, .iload_n 1, 1), (8, .baload, 1), (9, .sipush 255, 3), (12, .iand, 1), (13, .i2c, 1), (14, .ireturn, 1)] = true := by decide +kernel
theorem dJ1_charAt_3b067_0 : decode cJ1_charAt_3b067 0 = .ok (.iload_n 1, 1) := dk_get dk_d06_675 0 rfl
theorem dJ1_charAt_3b067_1 : decode cJ1_charAt_3b067 1 = .ok (.aload_n 0, 1) := dk_get dk_d06_675 1 rfl
theorem dJ1_charAt_3b067_2 : decode cJ1_charAt_3b067 2 = .ok (.arraylength, 1) := dk_get dk_d06_675 2 rfl
theorem dJ1_charAt_3b067_3 : decode cJ1_charAt_3b067 3 = .ok (.invokestatic 9, 3) := dk_get dk_d06_675 3 rfl
theorem dJ1_charAt_3b067_6 : decode cJ1_charAt_3b067 6 = .ok (.aload_n 0, 1) := dk_get dk_d06_675 4 rfl
theorem dJ1_charAt_3b067_7 : decode cJ1_charAt_3b067 7 = .ok (.iload_n 1, 1) := dk_get dk_d06_675 5 rfl
theorem dJ1_charAt_3b067_8 : decode cJ1_charAt_3b067 8 = .ok (.baload, 1) := dk_get dk_d06_675 6 rfl
theorem dJ1_charAt_3b067_9 : decode cJ1_charAt_3b067 9 = .ok (.sipush 255, 3) := dk_get dk_d06_675 7 rfl
theorem dJ1_charAt_3b067_12 : decode cJ1_charAt_3b067 12 = .ok (.iand, 1) := dk_get dk_d06_675 8 rfl
theorem dJ1_charAt_3b067_13 : decode cJ1_charAt_3b067 13 = .ok (.i2c, 1) := dk_get dk_d06_675 9 rfl
theorem dJ1_charAt_3b067_14 : decode cJ1_charAt_3b067 14 = .ok (.ireturn, 1) := dk_get dk_d06_675 10 rfl
theorem dk_d06_681 : dkc cJ7_fill_53178 [(0, .iconst 0, 1), (1, .istore_n 2, 1), (2, .aload_n 0, 1), (3, .arraylength, 1), (4, .istore_n 3, 1), (5, .iload_n 2, 1), (6, .iload_n 3, 1), (7, .if_icmp .ge 13, 3), (10, .aload_n 0, 1), (11, .iload_n 2, 1), (12, .iload_n 1, 1), (13, .iastore, 1), (14, .iinc 2 1, 3), (17, .goto (-12), 3), (20, .return_, 1)] = true := by decide +kernel
theorem dJ7_fill_53178_0 : decode cJ7_fill_53178 0 = .ok (.iconst 0, 1) := dk_get dk_d06_681 0 rfl
theorem dJ7_fill_53178_1 : decode cJ7_fill_53178 1 = .ok (.istore_n 2, 1) := dk_get dk_d06_681 1 rfl
theorem dJ7_fill_53178_2 : decode cJ7_fill_53178 2 = .ok (.aload_n 0, 1) := dk_get dk_d06_681 2 rfl
theorem dJ7_fill_53178_3 : decode cJ7_fill_53178 3 = .ok (.arraylength, 1) := dk_get dk_d06_681 3 rfl
theorem dJ7_fill_53178_4 : decode cJ7_fill_53178 4 = .ok (.istore_n 3, 1) := dk_get dk_d06_681 4 rfl
theorem dJ7_fill_53178_5 : decode cJ7_fill_53178 5 = .ok (.iload_n 2, 1) := dk_get dk_d06_681 5 rfl
theorem dJ7_fill_53178_6 : decode cJ7_fill_53178 6 = .ok (.iload_n 3, 1) := dk_get dk_d06_681 6 rfl
theorem dJ7_fill_53178_7 : decode cJ7_fill_53178 7 = .ok (.if_icmp .ge 13, 3) := dk_get dk_d06_681 7 rfl
theorem dJ7_fill_53178_10 : decode cJ7_fill_53178 10 = .ok (.aload_n 0, 1) := dk_get dk_d06_681 8 rfl
theorem dJ7_fill_53178_11 : decode cJ7_fill_53178 11 = .ok (.iload_n 2, 1) := dk_get dk_d06_681 9 rfl
theorem dJ7_fill_53178_12 : decode cJ7_fill_53178 12 = .ok (.iload_n 1, 1) := dk_get dk_d06_681 10 rfl
theorem dJ7_fill_53178_13 : decode cJ7_fill_53178 13 = .ok (.iastore, 1) := dk_get dk_d06_681 11 rfl
theorem dJ7_fill_53178_14 : decode cJ7_fill_53178 14 = .ok (.iinc 2 1, 3) := dk_get dk_d06_681 12 rfl
theorem dJ7_fill_53178_17 : decode cJ7_fill_53178 17 = .ok (.goto (-12), 3) := dk_get dk_d06_681 13 rfl
theorem dJ7_fill_53178_20 : decode cJ7_fill_53178 20 = .ok (.return_, 1) := dk_get dk_d06_681 14 rfl
theorem dk_d06_682 : dkc cJ7_copyOf_59c91 [(0, .iload_n 1, 1), (1, .aload_n 0, 1), (2, .arraylength, 1), (3, .if_icmp .ne 11, 3), (6, .aload_n 0, 1), (7, .invokevirtual 316, 3), (10, .checkcast 317, 3), (13, .areturn, 1), (14, .iload_n 1, 1), (15, .newarray .int, 2), (17, .astore_n 2, 1), (18, .aload_n 0, 1), (19, .iconst 0, 1), (20, .aload_n 2, 1), (21, .iconst 0, 1), (22, .aload_n 0, 1), (23, .arraylength, 1), (24, .iload_n 1, 1), (25, .invokestatic 304, 3), (28, .invokestatic 150, 3), (31, .aload_n 2, 1), (32, .areturn, 1)] = true := by decide +kernel
theorem dJ7_copyOf_59c91_0 : decode cJ7_copyOf_59c91 0 = .ok (.iload_n 1, 1) := dk_get dk_d06_682 0 rfl
theorem dJ7_copyOf_59c91_1 : decode cJ7_copyOf_59c91 1 = .ok (.aload_n 0, 1) := dk_get dk_d06_682 1 rfl
theorem dJ7_copyOf_59c91_2 : decode cJ7_copyOf_59c91 2 = .ok (.arraylength, 1) := dk_get dk_d06_682 2 rfl
theorem dJ7_copyOf_59c91_3 : decode cJ7_copyOf_59c91 3 = .ok (.if_icmp .ne 11, 3) := dk_get dk_d06_682 3 rfl
theorem dJ7_copyOf_59c91_6 : decode cJ7_copyOf_59c91 6 = .ok (.aload_n 0, 1) := dk_get dk_d06_682 4 rfl
theorem dJ7_copyOf_59c91_7 : decode cJ7_copyOf_59c91 7 = .ok (.invokevirtual 316, 3) := dk_get dk_d06_682 5 rfl
theorem dJ7_copyOf_59c91_10 : decode cJ7_copyOf_59c91 10 = .ok (.checkcast 317, 3) := dk_get dk_d06_682 6 rfl
theorem dJ7_copyOf_59c91_13 : decode cJ7_copyOf_59c91 13 = .ok (.areturn, 1) := dk_get dk_d06_682 7 rfl
theorem dJ7_copyOf_59c91_14 : decode cJ7_copyOf_59c91 14 = .ok (.iload_n 1, 1) := dk_get dk_d06_682 8 rfl
theorem dJ7_copyOf_59c91_15 : decode cJ7_copyOf_59c91 15 = .ok (.newarray .int, 2) := dk_get dk_d06_682 9 rfl
theorem dJ7_copyOf_59c91_17 : decode cJ7_copyOf_59c91 17 = .ok (.astore_n 2, 1) := dk_get dk_d06_682 10 rfl
theorem dJ7_copyOf_59c91_18 : decode cJ7_copyOf_59c91 18 = .ok (.aload_n 0, 1) := dk_get dk_d06_682 11 rfl
theorem dJ7_copyOf_59c91_19 : decode cJ7_copyOf_59c91 19 = .ok (.iconst 0, 1) := dk_get dk_d06_682 12 rfl
theorem dJ7_copyOf_59c91_20 : decode cJ7_copyOf_59c91 20 = .ok (.aload_n 2, 1) := dk_get dk_d06_682 13 rfl
theorem dJ7_copyOf_59c91_21 : decode cJ7_copyOf_59c91 21 = .ok (.iconst 0, 1) := dk_get dk_d06_682 14 rfl
theorem dJ7_copyOf_59c91_22 : decode cJ7_copyOf_59c91 22 = .ok (.aload_n 0, 1) := dk_get dk_d06_682 15 rfl
theorem dJ7_copyOf_59c91_23 : decode cJ7_copyOf_59c91 23 = .ok (.arraylength, 1) := dk_get dk_d06_682 16 rfl
theorem dJ7_copyOf_59c91_24 : decode cJ7_copyOf_59c91 24 = .ok (.iload_n 1, 1) := dk_get dk_d06_682 17 rfl
theorem dJ7_copyOf_59c91_25 : decode cJ7_copyOf_59c91 25 = .ok (.invokestatic 304, 3) := dk_get dk_d06_682 18 rfl
theorem dJ7_copyOf_59c91_28 : decode cJ7_copyOf_59c91 28 = .ok (.invokestatic 150, 3) := dk_get dk_d06_682 19 rfl
theorem dJ7_copyOf_59c91_31 : decode cJ7_copyOf_59c91 31 = .ok (.aload_n 2, 1) := dk_get dk_d06_682 20 rfl
theorem dJ7_copyOf_59c91_32 : decode cJ7_copyOf_59c91 32 = .ok (.areturn, 1) := dk_get dk_d06_682 21 rfl
theorem dk_d06_683 : dkc cJ3_checkIndex_8e157 [(0, .iload_n 0, 1), (1, .ifCond .lt 8, 3), (4, .iload_n 0, 1), (5, .iload_n 1, 1), (6, .if_icmp .lt 10, 3), (9, .aload_n 2, 1), (10, .iload_n 0, 1), (11, .iload_n 1, 1), (12, .invokestatic 95, 3), (15, .athrow, 1), (16, .iload_n 0, 1), (17, .ireturn, 1)] = true := by decide +kernel
theorem dJ3_checkIndex_8e157_0 : decode cJ3_checkIndex_8e157 0 = .ok (.iload_n 0, 1) := dk_get dk_d06_683 0 rfl
theorem dJ3_checkIndex_8e157_1 : decode cJ3_checkIndex_8e157 1 = .ok (.ifCond .lt 8, 3) := dk_get dk_d06_683 1 rfl
theorem dJ3_checkIndex_8e157_4 : decode cJ3_checkIndex_8e157 4 = .ok (.iload_n 0, 1) := dk_get dk_d06_683 2 rfl
theorem dJ3_checkIndex_8e157_5 : decode cJ3_checkIndex_8e157 5 = .ok (.iload_n 1, 1) := dk_get dk_d06_683 3 rfl
theorem dJ3_checkIndex_8e157_6 : decode cJ3_checkIndex_8e157 6 = .ok (.if_icmp .lt 10, 3) := dk_get dk_d06_683 4 rfl
theorem dJ3_checkIndex_8e157_16 : decode cJ3_checkIndex_8e157 16 = .ok (.iload_n 0, 1) := dk_get dk_d06_683 10 rfl
theorem dJ3_checkIndex_8e157_17 : decode cJ3_checkIndex_8e157 17 = .ok (.ireturn, 1) := dk_get dk_d06_683 11 rfl
theorem dk_d06_684 : dkc cL_law [(0, .new 7, 3), (3, .dup, 1), (4, .invokespecial 9, 3), (7, .astore_n 1, 1), (8, .new 10, 3), (11, .dup, 1), (12, .invokespecial 12, 3), (15, .astore_n 2, 1), (16, .iconst 0, 1), (17, .istore_n 3, 1), (18, .iload_n 3, 1), (19, .aload_n 0, 1), (20, .arraylength, 1), (21, .bipush 6, 2), (23, .isub, 1), (24, .if_icmp .gt 1339, 3), (27, .aload_n 0, 1), (28, .iload_n 3, 1), (29, .iaload, 1), (30, .bipush 63, 2), (32, .iand, 1), (33, .tableswitch 1324 0 38 #[171, 194, 247, 290, 323, 356, 389, 412, 475, 498, 521, 544, 577, 620, 653, 686, 709, 742, 765, 788, 831, 854, 887, 910, 933, 956, 979, 1012, 1045, 1058, 1081, 1114, 1147, 1170, 1203, 1216, 1249, 1262, 1301], 171), (204, .aload_n 1, 1), (205, .aload_n 0, 1), (206, .iload_n 3, 1)] = true := by decide +kernel
theorem dL_law_0 : decode cL_law 0 = .ok (.new 7, 3) := dk_get dk_d06_684 0 rfl
theorem dL_law_3 : decode cL_law 3 = .ok (.dup, 1) := dk_get dk_d06_684 1 rfl
theorem dL_law_4 : decode cL_law 4 = .ok (.invokespecial 9, 3) := dk_get dk_d06_684 2 rfl
theorem dL_law_7 : decode cL_law 7 = .ok (.astore_n 1, 1) := dk_get dk_d06_684 3 rfl
theorem dL_law_8 : decode cL_law 8 = .ok (.new 10, 3) := dk_get dk_d06_684 4 rfl
theorem dL_law_11 : decode cL_law 11 = .ok (.dup, 1) := dk_get dk_d06_684 5 rfl
theorem dL_law_12 : decode cL_law 12 = .ok (.invokespecial 12, 3) := dk_get dk_d06_684 6 rfl
theorem dL_law_15 : decode cL_law 15 = .ok (.astore_n 2, 1) := dk_get dk_d06_684 7 rfl
theorem dL_law_16 : decode cL_law 16 = .ok (.iconst 0, 1) := dk_get dk_d06_684 8 rfl
theorem dL_law_17 : decode cL_law 17 = .ok (.istore_n 3, 1) := dk_get dk_d06_684 9 rfl
theorem dL_law_18 : decode cL_law 18 = .ok (.iload_n 3, 1) := dk_get dk_d06_684 10 rfl
theorem dL_law_19 : decode cL_law 19 = .ok (.aload_n 0, 1) := dk_get dk_d06_684 11 rfl
theorem dL_law_20 : decode cL_law 20 = .ok (.arraylength, 1) := dk_get dk_d06_684 12 rfl
theorem dL_law_21 : decode cL_law 21 = .ok (.bipush 6, 2) := dk_get dk_d06_684 13 rfl
theorem dL_law_23 : decode cL_law 23 = .ok (.isub, 1) := dk_get dk_d06_684 14 rfl
theorem dL_law_24 : decode cL_law 24 = .ok (.if_icmp .gt 1339, 3) := dk_get dk_d06_684 15 rfl
theorem dL_law_27 : decode cL_law 27 = .ok (.aload_n 0, 1) := dk_get dk_d06_684 16 rfl
theorem dL_law_28 : decode cL_law 28 = .ok (.iload_n 3, 1) := dk_get dk_d06_684 17 rfl
theorem dL_law_29 : decode cL_law 29 = .ok (.iaload, 1) := dk_get dk_d06_684 18 rfl
theorem dL_law_30 : decode cL_law 30 = .ok (.bipush 63, 2) := dk_get dk_d06_684 19 rfl
theorem dL_law_32 : decode cL_law 32 = .ok (.iand, 1) := dk_get dk_d06_684 20 rfl
theorem dL_law_33 : decode cL_law 33 = .ok (.tableswitch 1324 0 38 #[171, 194, 247, 290, 323, 356, 389, 412, 475, 498, 521, 544, 577, 620, 653, 686, 709, 742, 765, 788, 831, 854, 887, 910, 933, 956, 979, 1012, 1045, 1058, 1081, 1114, 1147, 1170, 1203, 1216, 1249, 1262, 1301], 171) := dk_get dk_d06_684 21 rfl
theorem dL_law_204 : decode cL_law 204 = .ok (.aload_n 1, 1) := dk_get dk_d06_684 22 rfl
theorem dL_law_205 : decode cL_law 205 = .ok (.aload_n 0, 1) := dk_get dk_d06_684 23 rfl
theorem dL_law_206 : decode cL_law 206 = .ok (.iload_n 3, 1) := dk_get dk_d06_684 24 rfl
theorem dk_d06_685 : dkc cL_law [(207, .iconst 1, 1), (208, .iadd, 1), (209, .iaload, 1), (210, .invokevirtual 13, 3), (213, .pop, 1), (214, .aload_n 2, 1), (215, .aload_n 0, 1), (216, .iload_n 3, 1), (217, .iconst 1, 1), (218, .iadd, 1), (219, .iaload, 1), (220, .invokevirtual 17, 3), (223, .pop, 1), (224, .goto 1133, 3), (227, .aload_n 1, 1), (228, .aload_n 0, 1), (229, .iload_n 3, 1), (230, .iconst 1, 1), (231, .iadd, 1), (232, .iaload, 1), (233, .aload_n 0, 1), (234, .iload_n 3, 1), (235, .iconst 2, 1), (236, .iadd, 1), (237, .iaload, 1)] = true := by decide +kernel
theorem dL_law_207 : decode cL_law 207 = .ok (.iconst 1, 1) := dk_get dk_d06_685 0 rfl
theorem dL_law_208 : decode cL_law 208 = .ok (.iadd, 1) := dk_get dk_d06_685 1 rfl
theorem dL_law_209 : decode cL_law 209 = .ok (.iaload, 1) := dk_get dk_d06_685 2 rfl
theorem dL_law_210 : decode cL_law 210 = .ok (.invokevirtual 13, 3) := dk_get dk_d06_685 3 rfl
theorem dL_law_213 : decode cL_law 213 = .ok (.pop, 1) := dk_get dk_d06_685 4 rfl
theorem dL_law_214 : decode cL_law 214 = .ok (.aload_n 2, 1) := dk_get dk_d06_685 5 rfl
theorem dL_law_215 : decode cL_law 215 = .ok (.aload_n 0, 1) := dk_get dk_d06_685 6 rfl
theorem dL_law_216 : decode cL_law 216 = .ok (.iload_n 3, 1) := dk_get dk_d06_685 7 rfl
theorem dL_law_217 : decode cL_law 217 = .ok (.iconst 1, 1) := dk_get dk_d06_685 8 rfl
theorem dL_law_218 : decode cL_law 218 = .ok (.iadd, 1) := dk_get dk_d06_685 9 rfl
theorem dL_law_219 : decode cL_law 219 = .ok (.iaload, 1) := dk_get dk_d06_685 10 rfl
theorem dL_law_220 : decode cL_law 220 = .ok (.invokevirtual 17, 3) := dk_get dk_d06_685 11 rfl
theorem dL_law_223 : decode cL_law 223 = .ok (.pop, 1) := dk_get dk_d06_685 12 rfl
theorem dL_law_224 : decode cL_law 224 = .ok (.goto 1133, 3) := dk_get dk_d06_685 13 rfl
theorem dL_law_227 : decode cL_law 227 = .ok (.aload_n 1, 1) := dk_get dk_d06_685 14 rfl
theorem dL_law_228 : decode cL_law 228 = .ok (.aload_n 0, 1) := dk_get dk_d06_685 15 rfl
theorem dL_law_229 : decode cL_law 229 = .ok (.iload_n 3, 1) := dk_get dk_d06_685 16 rfl
theorem dL_law_230 : decode cL_law 230 = .ok (.iconst 1, 1) := dk_get dk_d06_685 17 rfl
theorem dL_law_231 : decode cL_law 231 = .ok (.iadd, 1) := dk_get dk_d06_685 18 rfl
theorem dL_law_232 : decode cL_law 232 = .ok (.iaload, 1) := dk_get dk_d06_685 19 rfl
theorem dL_law_233 : decode cL_law 233 = .ok (.aload_n 0, 1) := dk_get dk_d06_685 20 rfl
theorem dL_law_234 : decode cL_law 234 = .ok (.iload_n 3, 1) := dk_get dk_d06_685 21 rfl
theorem dL_law_235 : decode cL_law 235 = .ok (.iconst 2, 1) := dk_get dk_d06_685 22 rfl
theorem dL_law_236 : decode cL_law 236 = .ok (.iadd, 1) := dk_get dk_d06_685 23 rfl
theorem dL_law_237 : decode cL_law 237 = .ok (.iaload, 1) := dk_get dk_d06_685 24 rfl
theorem dk_d06_686 : dkc cL_law [(238, .aload_n 0, 1), (239, .iload_n 3, 1), (240, .iconst 3, 1), (241, .iadd, 1), (242, .iaload, 1), (243, .aload_n 0, 1), (244, .iload_n 3, 1), (245, .iconst 4, 1), (246, .iadd, 1), (247, .iaload, 1), (248, .invokevirtual 18, 3), (251, .pop, 1), (252, .aload_n 2, 1), (253, .aload_n 0, 1), (254, .iload_n 3, 1), (255, .iconst 1, 1), (256, .iadd, 1), (257, .iaload, 1), (258, .aload_n 0, 1), (259, .iload_n 3, 1), (260, .iconst 2, 1), (261, .iadd, 1), (262, .iaload, 1), (263, .aload_n 0, 1), (264, .iload_n 3, 1)] = true := by decide +kernel
theorem dL_law_238 : decode cL_law 238 = .ok (.aload_n 0, 1) := dk_get dk_d06_686 0 rfl
theorem dL_law_239 : decode cL_law 239 = .ok (.iload_n 3, 1) := dk_get dk_d06_686 1 rfl
theorem dL_law_240 : decode cL_law 240 = .ok (.iconst 3, 1) := dk_get dk_d06_686 2 rfl
theorem dL_law_241 : decode cL_law 241 = .ok (.iadd, 1) := dk_get dk_d06_686 3 rfl
theorem dL_law_242 : decode cL_law 242 = .ok (.iaload, 1) := dk_get dk_d06_686 4 rfl
theorem dL_law_243 : decode cL_law 243 = .ok (.aload_n 0, 1) := dk_get dk_d06_686 5 rfl
theorem dL_law_244 : decode cL_law 244 = .ok (.iload_n 3, 1) := dk_get dk_d06_686 6 rfl
theorem dL_law_245 : decode cL_law 245 = .ok (.iconst 4, 1) := dk_get dk_d06_686 7 rfl
theorem dL_law_246 : decode cL_law 246 = .ok (.iadd, 1) := dk_get dk_d06_686 8 rfl
theorem dL_law_247 : decode cL_law 247 = .ok (.iaload, 1) := dk_get dk_d06_686 9 rfl
theorem dL_law_248 : decode cL_law 248 = .ok (.invokevirtual 18, 3) := dk_get dk_d06_686 10 rfl
theorem dL_law_251 : decode cL_law 251 = .ok (.pop, 1) := dk_get dk_d06_686 11 rfl
theorem dL_law_252 : decode cL_law 252 = .ok (.aload_n 2, 1) := dk_get dk_d06_686 12 rfl
theorem dL_law_253 : decode cL_law 253 = .ok (.aload_n 0, 1) := dk_get dk_d06_686 13 rfl
theorem dL_law_254 : decode cL_law 254 = .ok (.iload_n 3, 1) := dk_get dk_d06_686 14 rfl
theorem dL_law_255 : decode cL_law 255 = .ok (.iconst 1, 1) := dk_get dk_d06_686 15 rfl
theorem dL_law_256 : decode cL_law 256 = .ok (.iadd, 1) := dk_get dk_d06_686 16 rfl
theorem dL_law_257 : decode cL_law 257 = .ok (.iaload, 1) := dk_get dk_d06_686 17 rfl
theorem dL_law_258 : decode cL_law 258 = .ok (.aload_n 0, 1) := dk_get dk_d06_686 18 rfl
theorem dL_law_259 : decode cL_law 259 = .ok (.iload_n 3, 1) := dk_get dk_d06_686 19 rfl
theorem dL_law_260 : decode cL_law 260 = .ok (.iconst 2, 1) := dk_get dk_d06_686 20 rfl
theorem dL_law_261 : decode cL_law 261 = .ok (.iadd, 1) := dk_get dk_d06_686 21 rfl
theorem dL_law_262 : decode cL_law 262 = .ok (.iaload, 1) := dk_get dk_d06_686 22 rfl
theorem dL_law_263 : decode cL_law 263 = .ok (.aload_n 0, 1) := dk_get dk_d06_686 23 rfl
theorem dL_law_264 : decode cL_law 264 = .ok (.iload_n 3, 1) := dk_get dk_d06_686 24 rfl
theorem dk_d06_687 : dkc cL_law [(265, .iconst 3, 1), (266, .iadd, 1), (267, .iaload, 1), (268, .aload_n 0, 1), (269, .iload_n 3, 1), (270, .iconst 4, 1), (271, .iadd, 1), (272, .iaload, 1), (273, .invokevirtual 22, 3), (276, .pop, 1), (277, .goto 1080, 3), (280, .aload_n 1, 1), (281, .aload_n 0, 1), (282, .iload_n 3, 1), (283, .iconst 1, 1), (284, .iadd, 1), (285, .iaload, 1), (286, .aload_n 0, 1), (287, .iload_n 3, 1), (288, .iconst 2, 1), (289, .iadd, 1), (290, .iaload, 1), (291, .aload_n 0, 1), (292, .iload_n 3, 1), (293, .iconst 3, 1)] = true := by decide +kernel
theorem dL_law_265 : decode cL_law 265 = .ok (.iconst 3, 1) := dk_get dk_d06_687 0 rfl
theorem dL_law_266 : decode cL_law 266 = .ok (.iadd, 1) := dk_get dk_d06_687 1 rfl
theorem dL_law_267 : decode cL_law 267 = .ok (.iaload, 1) := dk_get dk_d06_687 2 rfl
theorem dL_law_268 : decode cL_law 268 = .ok (.aload_n 0, 1) := dk_get dk_d06_687 3 rfl
theorem dL_law_269 : decode cL_law 269 = .ok (.iload_n 3, 1) := dk_get dk_d06_687 4 rfl
theorem dL_law_270 : decode cL_law 270 = .ok (.iconst 4, 1) := dk_get dk_d06_687 5 rfl
theorem dL_law_271 : decode cL_law 271 = .ok (.iadd, 1) := dk_get dk_d06_687 6 rfl
theorem dL_law_272 : decode cL_law 272 = .ok (.iaload, 1) := dk_get dk_d06_687 7 rfl
theorem dL_law_273 : decode cL_law 273 = .ok (.invokevirtual 22, 3) := dk_get dk_d06_687 8 rfl
theorem dL_law_276 : decode cL_law 276 = .ok (.pop, 1) := dk_get dk_d06_687 9 rfl
theorem dL_law_277 : decode cL_law 277 = .ok (.goto 1080, 3) := dk_get dk_d06_687 10 rfl
theorem dL_law_280 : decode cL_law 280 = .ok (.aload_n 1, 1) := dk_get dk_d06_687 11 rfl
theorem dL_law_281 : decode cL_law 281 = .ok (.aload_n 0, 1) := dk_get dk_d06_687 12 rfl
theorem dL_law_282 : decode cL_law 282 = .ok (.iload_n 3, 1) := dk_get dk_d06_687 13 rfl
theorem dL_law_283 : decode cL_law 283 = .ok (.iconst 1, 1) := dk_get dk_d06_687 14 rfl
theorem dL_law_284 : decode cL_law 284 = .ok (.iadd, 1) := dk_get dk_d06_687 15 rfl
theorem dL_law_285 : decode cL_law 285 = .ok (.iaload, 1) := dk_get dk_d06_687 16 rfl
theorem dL_law_286 : decode cL_law 286 = .ok (.aload_n 0, 1) := dk_get dk_d06_687 17 rfl
theorem dL_law_287 : decode cL_law 287 = .ok (.iload_n 3, 1) := dk_get dk_d06_687 18 rfl
theorem dL_law_288 : decode cL_law 288 = .ok (.iconst 2, 1) := dk_get dk_d06_687 19 rfl
theorem dL_law_289 : decode cL_law 289 = .ok (.iadd, 1) := dk_get dk_d06_687 20 rfl
theorem dL_law_290 : decode cL_law 290 = .ok (.iaload, 1) := dk_get dk_d06_687 21 rfl
theorem dL_law_291 : decode cL_law 291 = .ok (.aload_n 0, 1) := dk_get dk_d06_687 22 rfl
theorem dL_law_292 : decode cL_law 292 = .ok (.iload_n 3, 1) := dk_get dk_d06_687 23 rfl
theorem dL_law_293 : decode cL_law 293 = .ok (.iconst 3, 1) := dk_get dk_d06_687 24 rfl
theorem dk_d06_688 : dkc cL_law [(294, .iadd, 1), (295, .iaload, 1), (296, .invokevirtual 23, 3), (299, .pop, 1), (300, .aload_n 2, 1), (301, .aload_n 0, 1), (302, .iload_n 3, 1), (303, .iconst 1, 1), (304, .iadd, 1), (305, .iaload, 1), (306, .aload_n 0, 1), (307, .iload_n 3, 1), (308, .iconst 2, 1), (309, .iadd, 1), (310, .iaload, 1), (311, .aload_n 0, 1), (312, .iload_n 3, 1), (313, .iconst 3, 1), (314, .iadd, 1), (315, .iaload, 1), (316, .invokevirtual 27, 3), (319, .pop, 1), (320, .goto 1037, 3), (323, .aload_n 1, 1), (324, .aload_n 0, 1)] = true := by decide +kernel
theorem dL_law_294 : decode cL_law 294 = .ok (.iadd, 1) := dk_get dk_d06_688 0 rfl
theorem dL_law_295 : decode cL_law 295 = .ok (.iaload, 1) := dk_get dk_d06_688 1 rfl
theorem dL_law_296 : decode cL_law 296 = .ok (.invokevirtual 23, 3) := dk_get dk_d06_688 2 rfl
theorem dL_law_299 : decode cL_law 299 = .ok (.pop, 1) := dk_get dk_d06_688 3 rfl
theorem dL_law_300 : decode cL_law 300 = .ok (.aload_n 2, 1) := dk_get dk_d06_688 4 rfl
theorem dL_law_301 : decode cL_law 301 = .ok (.aload_n 0, 1) := dk_get dk_d06_688 5 rfl
theorem dL_law_302 : decode cL_law 302 = .ok (.iload_n 3, 1) := dk_get dk_d06_688 6 rfl
theorem dL_law_303 : decode cL_law 303 = .ok (.iconst 1, 1) := dk_get dk_d06_688 7 rfl
theorem dL_law_304 : decode cL_law 304 = .ok (.iadd, 1) := dk_get dk_d06_688 8 rfl
theorem dL_law_305 : decode cL_law 305 = .ok (.iaload, 1) := dk_get dk_d06_688 9 rfl
theorem dL_law_306 : decode cL_law 306 = .ok (.aload_n 0, 1) := dk_get dk_d06_688 10 rfl
theorem dL_law_307 : decode cL_law 307 = .ok (.iload_n 3, 1) := dk_get dk_d06_688 11 rfl
theorem dL_law_308 : decode cL_law 308 = .ok (.iconst 2, 1) := dk_get dk_d06_688 12 rfl
theorem dL_law_309 : decode cL_law 309 = .ok (.iadd, 1) := dk_get dk_d06_688 13 rfl
theorem dL_law_310 : decode cL_law 310 = .ok (.iaload, 1) := dk_get dk_d06_688 14 rfl
theorem dL_law_311 : decode cL_law 311 = .ok (.aload_n 0, 1) := dk_get dk_d06_688 15 rfl
theorem dL_law_312 : decode cL_law 312 = .ok (.iload_n 3, 1) := dk_get dk_d06_688 16 rfl
theorem dL_law_313 : decode cL_law 313 = .ok (.iconst 3, 1) := dk_get dk_d06_688 17 rfl
theorem dL_law_314 : decode cL_law 314 = .ok (.iadd, 1) := dk_get dk_d06_688 18 rfl
theorem dL_law_315 : decode cL_law 315 = .ok (.iaload, 1) := dk_get dk_d06_688 19 rfl
theorem dL_law_316 : decode cL_law 316 = .ok (.invokevirtual 27, 3) := dk_get dk_d06_688 20 rfl
theorem dL_law_319 : decode cL_law 319 = .ok (.pop, 1) := dk_get dk_d06_688 21 rfl
theorem dL_law_320 : decode cL_law 320 = .ok (.goto 1037, 3) := dk_get dk_d06_688 22 rfl
theorem dL_law_323 : decode cL_law 323 = .ok (.aload_n 1, 1) := dk_get dk_d06_688 23 rfl
theorem dL_law_324 : decode cL_law 324 = .ok (.aload_n 0, 1) := dk_get dk_d06_688 24 rfl
theorem dk_d06_689 : dkc cL_law [(325, .iload_n 3, 1), (326, .iconst 1, 1), (327, .iadd, 1), (328, .iaload, 1), (329, .aload_n 0, 1), (330, .iload_n 3, 1), (331, .iconst 2, 1), (332, .iadd, 1), (333, .iaload, 1), (334, .invokevirtual 28, 3), (337, .pop, 1), (338, .aload_n 2, 1), (339, .aload_n 0, 1), (340, .iload_n 3, 1), (341, .iconst 1, 1), (342, .iadd, 1), (343, .iaload, 1), (344, .aload_n 0, 1), (345, .iload_n 3, 1), (346, .iconst 2, 1), (347, .iadd, 1), (348, .iaload, 1), (349, .invokevirtual 32, 3), (352, .pop, 1), (353, .goto 1004, 3)] = true := by decide +kernel
theorem dL_law_325 : decode cL_law 325 = .ok (.iload_n 3, 1) := dk_get dk_d06_689 0 rfl
theorem dL_law_326 : decode cL_law 326 = .ok (.iconst 1, 1) := dk_get dk_d06_689 1 rfl
theorem dL_law_327 : decode cL_law 327 = .ok (.iadd, 1) := dk_get dk_d06_689 2 rfl
theorem dL_law_328 : decode cL_law 328 = .ok (.iaload, 1) := dk_get dk_d06_689 3 rfl
theorem dL_law_329 : decode cL_law 329 = .ok (.aload_n 0, 1) := dk_get dk_d06_689 4 rfl
theorem dL_law_330 : decode cL_law 330 = .ok (.iload_n 3, 1) := dk_get dk_d06_689 5 rfl
theorem dL_law_331 : decode cL_law 331 = .ok (.iconst 2, 1) := dk_get dk_d06_689 6 rfl
theorem dL_law_332 : decode cL_law 332 = .ok (.iadd, 1) := dk_get dk_d06_689 7 rfl
theorem dL_law_333 : decode cL_law 333 = .ok (.iaload, 1) := dk_get dk_d06_689 8 rfl
theorem dL_law_334 : decode cL_law 334 = .ok (.invokevirtual 28, 3) := dk_get dk_d06_689 9 rfl
theorem dL_law_337 : decode cL_law 337 = .ok (.pop, 1) := dk_get dk_d06_689 10 rfl
theorem dL_law_338 : decode cL_law 338 = .ok (.aload_n 2, 1) := dk_get dk_d06_689 11 rfl
theorem dL_law_339 : decode cL_law 339 = .ok (.aload_n 0, 1) := dk_get dk_d06_689 12 rfl
theorem dL_law_340 : decode cL_law 340 = .ok (.iload_n 3, 1) := dk_get dk_d06_689 13 rfl
theorem dL_law_341 : decode cL_law 341 = .ok (.iconst 1, 1) := dk_get dk_d06_689 14 rfl
theorem dL_law_342 : decode cL_law 342 = .ok (.iadd, 1) := dk_get dk_d06_689 15 rfl
theorem dL_law_343 : decode cL_law 343 = .ok (.iaload, 1) := dk_get dk_d06_689 16 rfl
theorem dL_law_344 : decode cL_law 344 = .ok (.aload_n 0, 1) := dk_get dk_d06_689 17 rfl
theorem dL_law_345 : decode cL_law 345 = .ok (.iload_n 3, 1) := dk_get dk_d06_689 18 rfl
theorem dL_law_346 : decode cL_law 346 = .ok (.iconst 2, 1) := dk_get dk_d06_689 19 rfl
theorem dL_law_347 : decode cL_law 347 = .ok (.iadd, 1) := dk_get dk_d06_689 20 rfl
theorem dL_law_348 : decode cL_law 348 = .ok (.iaload, 1) := dk_get dk_d06_689 21 rfl
theorem dL_law_349 : decode cL_law 349 = .ok (.invokevirtual 32, 3) := dk_get dk_d06_689 22 rfl
theorem dL_law_352 : decode cL_law 352 = .ok (.pop, 1) := dk_get dk_d06_689 23 rfl
theorem dL_law_353 : decode cL_law 353 = .ok (.goto 1004, 3) := dk_get dk_d06_689 24 rfl
theorem dk_d06_690 : dkc cL_law [(356, .aload_n 1, 1), (357, .aload_n 0, 1), (358, .iload_n 3, 1), (359, .iconst 1, 1), (360, .iadd, 1), (361, .iaload, 1), (362, .aload_n 0, 1), (363, .iload_n 3, 1), (364, .iconst 2, 1), (365, .iadd, 1), (366, .iaload, 1), (367, .invokevirtual 33, 3), (370, .pop, 1), (371, .aload_n 2, 1), (372, .aload_n 0, 1), (373, .iload_n 3, 1), (374, .iconst 1, 1), (375, .iadd, 1), (376, .iaload, 1), (377, .aload_n 0, 1), (378, .iload_n 3, 1), (379, .iconst 2, 1), (380, .iadd, 1), (381, .iaload, 1), (382, .invokevirtual 37, 3)] = true := by decide +kernel
theorem dL_law_356 : decode cL_law 356 = .ok (.aload_n 1, 1) := dk_get dk_d06_690 0 rfl
theorem dL_law_357 : decode cL_law 357 = .ok (.aload_n 0, 1) := dk_get dk_d06_690 1 rfl
theorem dL_law_358 : decode cL_law 358 = .ok (.iload_n 3, 1) := dk_get dk_d06_690 2 rfl
theorem dL_law_359 : decode cL_law 359 = .ok (.iconst 1, 1) := dk_get dk_d06_690 3 rfl
theorem dL_law_360 : decode cL_law 360 = .ok (.iadd, 1) := dk_get dk_d06_690 4 rfl
theorem dL_law_361 : decode cL_law 361 = .ok (.iaload, 1) := dk_get dk_d06_690 5 rfl
theorem dL_law_362 : decode cL_law 362 = .ok (.aload_n 0, 1) := dk_get dk_d06_690 6 rfl
theorem dL_law_363 : decode cL_law 363 = .ok (.iload_n 3, 1) := dk_get dk_d06_690 7 rfl
theorem dL_law_364 : decode cL_law 364 = .ok (.iconst 2, 1) := dk_get dk_d06_690 8 rfl
theorem dL_law_365 : decode cL_law 365 = .ok (.iadd, 1) := dk_get dk_d06_690 9 rfl
theorem dL_law_366 : decode cL_law 366 = .ok (.iaload, 1) := dk_get dk_d06_690 10 rfl
theorem dL_law_367 : decode cL_law 367 = .ok (.invokevirtual 33, 3) := dk_get dk_d06_690 11 rfl
theorem dL_law_370 : decode cL_law 370 = .ok (.pop, 1) := dk_get dk_d06_690 12 rfl
theorem dL_law_371 : decode cL_law 371 = .ok (.aload_n 2, 1) := dk_get dk_d06_690 13 rfl
theorem dL_law_372 : decode cL_law 372 = .ok (.aload_n 0, 1) := dk_get dk_d06_690 14 rfl
theorem dL_law_373 : decode cL_law 373 = .ok (.iload_n 3, 1) := dk_get dk_d06_690 15 rfl
theorem dL_law_374 : decode cL_law 374 = .ok (.iconst 1, 1) := dk_get dk_d06_690 16 rfl
theorem dL_law_375 : decode cL_law 375 = .ok (.iadd, 1) := dk_get dk_d06_690 17 rfl
theorem dL_law_376 : decode cL_law 376 = .ok (.iaload, 1) := dk_get dk_d06_690 18 rfl
theorem dL_law_377 : decode cL_law 377 = .ok (.aload_n 0, 1) := dk_get dk_d06_690 19 rfl
theorem dL_law_378 : decode cL_law 378 = .ok (.iload_n 3, 1) := dk_get dk_d06_690 20 rfl
theorem dL_law_379 : decode cL_law 379 = .ok (.iconst 2, 1) := dk_get dk_d06_690 21 rfl
theorem dL_law_380 : decode cL_law 380 = .ok (.iadd, 1) := dk_get dk_d06_690 22 rfl
theorem dL_law_381 : decode cL_law 381 = .ok (.iaload, 1) := dk_get dk_d06_690 23 rfl
theorem dL_law_382 : decode cL_law 382 = .ok (.invokevirtual 37, 3) := dk_get dk_d06_690 24 rfl
theorem dk_d06_691 : dkc cL_law [(385, .pop, 1), (386, .goto 971, 3), (389, .aload_n 1, 1), (390, .aload_n 0, 1), (391, .iload_n 3, 1), (392, .iconst 1, 1), (393, .iadd, 1), (394, .iaload, 1), (395, .aload_n 0, 1), (396, .iload_n 3, 1), (397, .iconst 2, 1), (398, .iadd, 1), (399, .iaload, 1), (400, .invokevirtual 38, 3), (403, .pop, 1), (404, .aload_n 2, 1), (405, .aload_n 0, 1), (406, .iload_n 3, 1), (407, .iconst 1, 1), (408, .iadd, 1), (409, .iaload, 1), (410, .aload_n 0, 1), (411, .iload_n 3, 1), (412, .iconst 2, 1), (413, .iadd, 1)] = true := by decide +kernel
theorem dL_law_385 : decode cL_law 385 = .ok (.pop, 1) := dk_get dk_d06_691 0 rfl
theorem dL_law_386 : decode cL_law 386 = .ok (.goto 971, 3) := dk_get dk_d06_691 1 rfl
theorem dL_law_389 : decode cL_law 389 = .ok (.aload_n 1, 1) := dk_get dk_d06_691 2 rfl
theorem dL_law_390 : decode cL_law 390 = .ok (.aload_n 0, 1) := dk_get dk_d06_691 3 rfl
theorem dL_law_391 : decode cL_law 391 = .ok (.iload_n 3, 1) := dk_get dk_d06_691 4 rfl
theorem dL_law_392 : decode cL_law 392 = .ok (.iconst 1, 1) := dk_get dk_d06_691 5 rfl
theorem dL_law_393 : decode cL_law 393 = .ok (.iadd, 1) := dk_get dk_d06_691 6 rfl
theorem dL_law_394 : decode cL_law 394 = .ok (.iaload, 1) := dk_get dk_d06_691 7 rfl
theorem dL_law_395 : decode cL_law 395 = .ok (.aload_n 0, 1) := dk_get dk_d06_691 8 rfl
theorem dL_law_396 : decode cL_law 396 = .ok (.iload_n 3, 1) := dk_get dk_d06_691 9 rfl
theorem dL_law_397 : decode cL_law 397 = .ok (.iconst 2, 1) := dk_get dk_d06_691 10 rfl
theorem dL_law_398 : decode cL_law 398 = .ok (.iadd, 1) := dk_get dk_d06_691 11 rfl
theorem dL_law_399 : decode cL_law 399 = .ok (.iaload, 1) := dk_get dk_d06_691 12 rfl
theorem dL_law_400 : decode cL_law 400 = .ok (.invokevirtual 38, 3) := dk_get dk_d06_691 13 rfl
theorem dL_law_403 : decode cL_law 403 = .ok (.pop, 1) := dk_get dk_d06_691 14 rfl
theorem dL_law_404 : decode cL_law 404 = .ok (.aload_n 2, 1) := dk_get dk_d06_691 15 rfl
theorem dL_law_405 : decode cL_law 405 = .ok (.aload_n 0, 1) := dk_get dk_d06_691 16 rfl
theorem dL_law_406 : decode cL_law 406 = .ok (.iload_n 3, 1) := dk_get dk_d06_691 17 rfl
theorem dL_law_407 : decode cL_law 407 = .ok (.iconst 1, 1) := dk_get dk_d06_691 18 rfl
theorem dL_law_408 : decode cL_law 408 = .ok (.iadd, 1) := dk_get dk_d06_691 19 rfl
theorem dL_law_409 : decode cL_law 409 = .ok (.iaload, 1) := dk_get dk_d06_691 20 rfl
theorem dL_law_410 : decode cL_law 410 = .ok (.aload_n 0, 1) := dk_get dk_d06_691 21 rfl
theorem dL_law_411 : decode cL_law 411 = .ok (.iload_n 3, 1) := dk_get dk_d06_691 22 rfl
theorem dL_law_412 : decode cL_law 412 = .ok (.iconst 2, 1) := dk_get dk_d06_691 23 rfl
theorem dL_law_413 : decode cL_law 413 = .ok (.iadd, 1) := dk_get dk_d06_691 24 rfl
theorem dk_d06_692 : dkc cL_law [(414, .iaload, 1), (415, .invokevirtual 41, 3), (418, .pop, 1), (419, .goto 938, 3), (422, .aload_n 1, 1), (423, .aload_n 0, 1), (424, .iload_n 3, 1), (425, .iconst 1, 1), (426, .iadd, 1), (427, .iaload, 1), (428, .invokevirtual 42, 3), (431, .pop, 1), (432, .aload_n 2, 1), (433, .aload_n 0, 1), (434, .iload_n 3, 1), (435, .iconst 1, 1), (436, .iadd, 1), (437, .iaload, 1), (438, .invokevirtual 45, 3), (441, .pop, 1), (442, .goto 915, 3), (445, .aload_n 1, 1), (446, .aload_n 0, 1), (447, .iload_n 3, 1), (448, .iconst 1, 1)] = true := by decide +kernel
theorem dL_law_414 : decode cL_law 414 = .ok (.iaload, 1) := dk_get dk_d06_692 0 rfl
theorem dL_law_415 : decode cL_law 415 = .ok (.invokevirtual 41, 3) := dk_get dk_d06_692 1 rfl
theorem dL_law_418 : decode cL_law 418 = .ok (.pop, 1) := dk_get dk_d06_692 2 rfl
theorem dL_law_419 : decode cL_law 419 = .ok (.goto 938, 3) := dk_get dk_d06_692 3 rfl
theorem dL_law_422 : decode cL_law 422 = .ok (.aload_n 1, 1) := dk_get dk_d06_692 4 rfl
theorem dL_law_423 : decode cL_law 423 = .ok (.aload_n 0, 1) := dk_get dk_d06_692 5 rfl
theorem dL_law_424 : decode cL_law 424 = .ok (.iload_n 3, 1) := dk_get dk_d06_692 6 rfl
theorem dL_law_425 : decode cL_law 425 = .ok (.iconst 1, 1) := dk_get dk_d06_692 7 rfl
theorem dL_law_426 : decode cL_law 426 = .ok (.iadd, 1) := dk_get dk_d06_692 8 rfl
theorem dL_law_427 : decode cL_law 427 = .ok (.iaload, 1) := dk_get dk_d06_692 9 rfl
theorem dL_law_428 : decode cL_law 428 = .ok (.invokevirtual 42, 3) := dk_get dk_d06_692 10 rfl
theorem dL_law_431 : decode cL_law 431 = .ok (.pop, 1) := dk_get dk_d06_692 11 rfl
theorem dL_law_432 : decode cL_law 432 = .ok (.aload_n 2, 1) := dk_get dk_d06_692 12 rfl
theorem dL_law_433 : decode cL_law 433 = .ok (.aload_n 0, 1) := dk_get dk_d06_692 13 rfl
theorem dL_law_434 : decode cL_law 434 = .ok (.iload_n 3, 1) := dk_get dk_d06_692 14 rfl
theorem dL_law_435 : decode cL_law 435 = .ok (.iconst 1, 1) := dk_get dk_d06_692 15 rfl
theorem dL_law_436 : decode cL_law 436 = .ok (.iadd, 1) := dk_get dk_d06_692 16 rfl
theorem dL_law_437 : decode cL_law 437 = .ok (.iaload, 1) := dk_get dk_d06_692 17 rfl
theorem dL_law_438 : decode cL_law 438 = .ok (.invokevirtual 45, 3) := dk_get dk_d06_692 18 rfl
theorem dL_law_441 : decode cL_law 441 = .ok (.pop, 1) := dk_get dk_d06_692 19 rfl
theorem dL_law_442 : decode cL_law 442 = .ok (.goto 915, 3) := dk_get dk_d06_692 20 rfl
theorem dL_law_445 : decode cL_law 445 = .ok (.aload_n 1, 1) := dk_get dk_d06_692 21 rfl
theorem dL_law_446 : decode cL_law 446 = .ok (.aload_n 0, 1) := dk_get dk_d06_692 22 rfl
theorem dL_law_447 : decode cL_law 447 = .ok (.iload_n 3, 1) := dk_get dk_d06_692 23 rfl
theorem dL_law_448 : decode cL_law 448 = .ok (.iconst 1, 1) := dk_get dk_d06_692 24 rfl
theorem dk_d06_693 : dkc cL_law [(449, .iadd, 1), (450, .iaload, 1), (451, .aload_n 0, 1), (452, .iload_n 3, 1), (453, .iconst 2, 1), (454, .iadd, 1), (455, .iaload, 1), (456, .aload_n 0, 1), (457, .iload_n 3, 1), (458, .iconst 3, 1), (459, .iadd, 1), (460, .iaload, 1), (461, .aload_n 0, 1), (462, .iload_n 3, 1), (463, .iconst 4, 1), (464, .iadd, 1), (465, .iaload, 1), (466, .aload_n 0, 1), (467, .iload_n 3, 1), (468, .iconst 5, 1), (469, .iadd, 1), (470, .iaload, 1), (471, .invokevirtual 46, 3), (474, .pop, 1), (475, .aload_n 2, 1)] = true := by decide +kernel
theorem dL_law_449 : decode cL_law 449 = .ok (.iadd, 1) := dk_get dk_d06_693 0 rfl
theorem dL_law_450 : decode cL_law 450 = .ok (.iaload, 1) := dk_get dk_d06_693 1 rfl
theorem dL_law_451 : decode cL_law 451 = .ok (.aload_n 0, 1) := dk_get dk_d06_693 2 rfl
theorem dL_law_452 : decode cL_law 452 = .ok (.iload_n 3, 1) := dk_get dk_d06_693 3 rfl
theorem dL_law_453 : decode cL_law 453 = .ok (.iconst 2, 1) := dk_get dk_d06_693 4 rfl
theorem dL_law_454 : decode cL_law 454 = .ok (.iadd, 1) := dk_get dk_d06_693 5 rfl
theorem dL_law_455 : decode cL_law 455 = .ok (.iaload, 1) := dk_get dk_d06_693 6 rfl
theorem dL_law_456 : decode cL_law 456 = .ok (.aload_n 0, 1) := dk_get dk_d06_693 7 rfl
theorem dL_law_457 : decode cL_law 457 = .ok (.iload_n 3, 1) := dk_get dk_d06_693 8 rfl
theorem dL_law_458 : decode cL_law 458 = .ok (.iconst 3, 1) := dk_get dk_d06_693 9 rfl
theorem dL_law_459 : decode cL_law 459 = .ok (.iadd, 1) := dk_get dk_d06_693 10 rfl
theorem dL_law_460 : decode cL_law 460 = .ok (.iaload, 1) := dk_get dk_d06_693 11 rfl
theorem dL_law_461 : decode cL_law 461 = .ok (.aload_n 0, 1) := dk_get dk_d06_693 12 rfl
theorem dL_law_462 : decode cL_law 462 = .ok (.iload_n 3, 1) := dk_get dk_d06_693 13 rfl
theorem dL_law_463 : decode cL_law 463 = .ok (.iconst 4, 1) := dk_get dk_d06_693 14 rfl
theorem dL_law_464 : decode cL_law 464 = .ok (.iadd, 1) := dk_get dk_d06_693 15 rfl
theorem dL_law_465 : decode cL_law 465 = .ok (.iaload, 1) := dk_get dk_d06_693 16 rfl
theorem dL_law_466 : decode cL_law 466 = .ok (.aload_n 0, 1) := dk_get dk_d06_693 17 rfl
theorem dL_law_467 : decode cL_law 467 = .ok (.iload_n 3, 1) := dk_get dk_d06_693 18 rfl
theorem dL_law_468 : decode cL_law 468 = .ok (.iconst 5, 1) := dk_get dk_d06_693 19 rfl
theorem dL_law_469 : decode cL_law 469 = .ok (.iadd, 1) := dk_get dk_d06_693 20 rfl
theorem dL_law_470 : decode cL_law 470 = .ok (.iaload, 1) := dk_get dk_d06_693 21 rfl
theorem dL_law_471 : decode cL_law 471 = .ok (.invokevirtual 46, 3) := dk_get dk_d06_693 22 rfl
theorem dL_law_474 : decode cL_law 474 = .ok (.pop, 1) := dk_get dk_d06_693 23 rfl
theorem dL_law_475 : decode cL_law 475 = .ok (.aload_n 2, 1) := dk_get dk_d06_693 24 rfl
theorem dk_d06_694 : dkc cL_law [(476, .aload_n 0, 1), (477, .iload_n 3, 1), (478, .iconst 1, 1), (479, .iadd, 1), (480, .iaload, 1), (481, .aload_n 0, 1), (482, .iload_n 3, 1), (483, .iconst 2, 1), (484, .iadd, 1), (485, .iaload, 1), (486, .aload_n 0, 1), (487, .iload_n 3, 1), (488, .iconst 3, 1), (489, .iadd, 1), (490, .iaload, 1), (491, .aload_n 0, 1), (492, .iload_n 3, 1), (493, .iconst 4, 1), (494, .iadd, 1), (495, .iaload, 1), (496, .aload_n 0, 1), (497, .iload_n 3, 1), (498, .iconst 5, 1), (499, .iadd, 1), (500, .iaload, 1)] = true := by decide +kernel
theorem dL_law_476 : decode cL_law 476 = .ok (.aload_n 0, 1) := dk_get dk_d06_694 0 rfl
theorem dL_law_477 : decode cL_law 477 = .ok (.iload_n 3, 1) := dk_get dk_d06_694 1 rfl
theorem dL_law_478 : decode cL_law 478 = .ok (.iconst 1, 1) := dk_get dk_d06_694 2 rfl
theorem dL_law_479 : decode cL_law 479 = .ok (.iadd, 1) := dk_get dk_d06_694 3 rfl
theorem dL_law_480 : decode cL_law 480 = .ok (.iaload, 1) := dk_get dk_d06_694 4 rfl
theorem dL_law_481 : decode cL_law 481 = .ok (.aload_n 0, 1) := dk_get dk_d06_694 5 rfl
theorem dL_law_482 : decode cL_law 482 = .ok (.iload_n 3, 1) := dk_get dk_d06_694 6 rfl
theorem dL_law_483 : decode cL_law 483 = .ok (.iconst 2, 1) := dk_get dk_d06_694 7 rfl
theorem dL_law_484 : decode cL_law 484 = .ok (.iadd, 1) := dk_get dk_d06_694 8 rfl
theorem dL_law_485 : decode cL_law 485 = .ok (.iaload, 1) := dk_get dk_d06_694 9 rfl
theorem dL_law_486 : decode cL_law 486 = .ok (.aload_n 0, 1) := dk_get dk_d06_694 10 rfl
theorem dL_law_487 : decode cL_law 487 = .ok (.iload_n 3, 1) := dk_get dk_d06_694 11 rfl
theorem dL_law_488 : decode cL_law 488 = .ok (.iconst 3, 1) := dk_get dk_d06_694 12 rfl
theorem dL_law_489 : decode cL_law 489 = .ok (.iadd, 1) := dk_get dk_d06_694 13 rfl
theorem dL_law_490 : decode cL_law 490 = .ok (.iaload, 1) := dk_get dk_d06_694 14 rfl
theorem dL_law_491 : decode cL_law 491 = .ok (.aload_n 0, 1) := dk_get dk_d06_694 15 rfl
theorem dL_law_492 : decode cL_law 492 = .ok (.iload_n 3, 1) := dk_get dk_d06_694 16 rfl
theorem dL_law_493 : decode cL_law 493 = .ok (.iconst 4, 1) := dk_get dk_d06_694 17 rfl
theorem dL_law_494 : decode cL_law 494 = .ok (.iadd, 1) := dk_get dk_d06_694 18 rfl
theorem dL_law_495 : decode cL_law 495 = .ok (.iaload, 1) := dk_get dk_d06_694 19 rfl
theorem dL_law_496 : decode cL_law 496 = .ok (.aload_n 0, 1) := dk_get dk_d06_694 20 rfl
theorem dL_law_497 : decode cL_law 497 = .ok (.iload_n 3, 1) := dk_get dk_d06_694 21 rfl
theorem dL_law_498 : decode cL_law 498 = .ok (.iconst 5, 1) := dk_get dk_d06_694 22 rfl
theorem dL_law_499 : decode cL_law 499 = .ok (.iadd, 1) := dk_get dk_d06_694 23 rfl
theorem dL_law_500 : decode cL_law 500 = .ok (.iaload, 1) := dk_get dk_d06_694 24 rfl
theorem dk_d06_695 : dkc cL_law [(501, .invokevirtual 50, 3), (504, .pop, 1), (505, .goto 852, 3), (508, .aload_n 1, 1), (509, .aload_n 0, 1), (510, .iload_n 3, 1), (511, .iconst 1, 1), (512, .iadd, 1), (513, .iaload, 1), (514, .invokevirtual 51, 3), (517, .pop, 1), (518, .aload_n 2, 1), (519, .aload_n 0, 1), (520, .iload_n 3, 1), (521, .iconst 1, 1), (522, .iadd, 1), (523, .iaload, 1), (524, .invokevirtual 55, 3), (527, .pop, 1), (528, .goto 829, 3), (531, .aload_n 1, 1), (532, .aload_n 0, 1), (533, .iload_n 3, 1), (534, .iconst 1, 1), (535, .iadd, 1)] = true := by decide +kernel
theorem dL_law_501 : decode cL_law 501 = .ok (.invokevirtual 50, 3) := dk_get dk_d06_695 0 rfl
theorem dL_law_504 : decode cL_law 504 = .ok (.pop, 1) := dk_get dk_d06_695 1 rfl
theorem dL_law_505 : decode cL_law 505 = .ok (.goto 852, 3) := dk_get dk_d06_695 2 rfl
theorem dL_law_508 : decode cL_law 508 = .ok (.aload_n 1, 1) := dk_get dk_d06_695 3 rfl
theorem dL_law_509 : decode cL_law 509 = .ok (.aload_n 0, 1) := dk_get dk_d06_695 4 rfl
theorem dL_law_510 : decode cL_law 510 = .ok (.iload_n 3, 1) := dk_get dk_d06_695 5 rfl
theorem dL_law_511 : decode cL_law 511 = .ok (.iconst 1, 1) := dk_get dk_d06_695 6 rfl
theorem dL_law_512 : decode cL_law 512 = .ok (.iadd, 1) := dk_get dk_d06_695 7 rfl
theorem dL_law_513 : decode cL_law 513 = .ok (.iaload, 1) := dk_get dk_d06_695 8 rfl
theorem dL_law_514 : decode cL_law 514 = .ok (.invokevirtual 51, 3) := dk_get dk_d06_695 9 rfl
theorem dL_law_517 : decode cL_law 517 = .ok (.pop, 1) := dk_get dk_d06_695 10 rfl
theorem dL_law_518 : decode cL_law 518 = .ok (.aload_n 2, 1) := dk_get dk_d06_695 11 rfl
theorem dL_law_519 : decode cL_law 519 = .ok (.aload_n 0, 1) := dk_get dk_d06_695 12 rfl
theorem dL_law_520 : decode cL_law 520 = .ok (.iload_n 3, 1) := dk_get dk_d06_695 13 rfl
theorem dL_law_521 : decode cL_law 521 = .ok (.iconst 1, 1) := dk_get dk_d06_695 14 rfl
theorem dL_law_522 : decode cL_law 522 = .ok (.iadd, 1) := dk_get dk_d06_695 15 rfl
theorem dL_law_523 : decode cL_law 523 = .ok (.iaload, 1) := dk_get dk_d06_695 16 rfl
theorem dL_law_524 : decode cL_law 524 = .ok (.invokevirtual 55, 3) := dk_get dk_d06_695 17 rfl
theorem dL_law_527 : decode cL_law 527 = .ok (.pop, 1) := dk_get dk_d06_695 18 rfl
theorem dL_law_528 : decode cL_law 528 = .ok (.goto 829, 3) := dk_get dk_d06_695 19 rfl
theorem dL_law_531 : decode cL_law 531 = .ok (.aload_n 1, 1) := dk_get dk_d06_695 20 rfl
theorem dL_law_532 : decode cL_law 532 = .ok (.aload_n 0, 1) := dk_get dk_d06_695 21 rfl
theorem dL_law_533 : decode cL_law 533 = .ok (.iload_n 3, 1) := dk_get dk_d06_695 22 rfl
theorem dL_law_534 : decode cL_law 534 = .ok (.iconst 1, 1) := dk_get dk_d06_695 23 rfl
theorem dL_law_535 : decode cL_law 535 = .ok (.iadd, 1) := dk_get dk_d06_695 24 rfl
theorem dk_d06_696 : dkc cL_law [(536, .iaload, 1), (537, .invokevirtual 56, 3), (540, .pop, 1), (541, .aload_n 2, 1), (542, .aload_n 0, 1), (543, .iload_n 3, 1), (544, .iconst 1, 1), (545, .iadd, 1), (546, .iaload, 1), (547, .invokevirtual 59, 3), (550, .pop, 1), (551, .goto 806, 3), (554, .aload_n 1, 1), (555, .aload_n 0, 1), (556, .iload_n 3, 1), (557, .iconst 1, 1), (558, .iadd, 1), (559, .iaload, 1), (560, .invokevirtual 60, 3), (563, .pop, 1), (564, .aload_n 2, 1), (565, .aload_n 0, 1), (566, .iload_n 3, 1), (567, .iconst 1, 1), (568, .iadd, 1)] = true := by decide +kernel
theorem dL_law_536 : decode cL_law 536 = .ok (.iaload, 1) := dk_get dk_d06_696 0 rfl
theorem dL_law_537 : decode cL_law 537 = .ok (.invokevirtual 56, 3) := dk_get dk_d06_696 1 rfl
theorem dL_law_540 : decode cL_law 540 = .ok (.pop, 1) := dk_get dk_d06_696 2 rfl
theorem dL_law_541 : decode cL_law 541 = .ok (.aload_n 2, 1) := dk_get dk_d06_696 3 rfl
theorem dL_law_542 : decode cL_law 542 = .ok (.aload_n 0, 1) := dk_get dk_d06_696 4 rfl
theorem dL_law_543 : decode cL_law 543 = .ok (.iload_n 3, 1) := dk_get dk_d06_696 5 rfl
theorem dL_law_544 : decode cL_law 544 = .ok (.iconst 1, 1) := dk_get dk_d06_696 6 rfl
theorem dL_law_545 : decode cL_law 545 = .ok (.iadd, 1) := dk_get dk_d06_696 7 rfl
theorem dL_law_546 : decode cL_law 546 = .ok (.iaload, 1) := dk_get dk_d06_696 8 rfl
theorem dL_law_547 : decode cL_law 547 = .ok (.invokevirtual 59, 3) := dk_get dk_d06_696 9 rfl
theorem dL_law_550 : decode cL_law 550 = .ok (.pop, 1) := dk_get dk_d06_696 10 rfl
theorem dL_law_551 : decode cL_law 551 = .ok (.goto 806, 3) := dk_get dk_d06_696 11 rfl
theorem dL_law_554 : decode cL_law 554 = .ok (.aload_n 1, 1) := dk_get dk_d06_696 12 rfl
theorem dL_law_555 : decode cL_law 555 = .ok (.aload_n 0, 1) := dk_get dk_d06_696 13 rfl
theorem dL_law_556 : decode cL_law 556 = .ok (.iload_n 3, 1) := dk_get dk_d06_696 14 rfl
theorem dL_law_557 : decode cL_law 557 = .ok (.iconst 1, 1) := dk_get dk_d06_696 15 rfl
theorem dL_law_558 : decode cL_law 558 = .ok (.iadd, 1) := dk_get dk_d06_696 16 rfl
theorem dL_law_559 : decode cL_law 559 = .ok (.iaload, 1) := dk_get dk_d06_696 17 rfl
theorem dL_law_560 : decode cL_law 560 = .ok (.invokevirtual 60, 3) := dk_get dk_d06_696 18 rfl
theorem dL_law_563 : decode cL_law 563 = .ok (.pop, 1) := dk_get dk_d06_696 19 rfl
theorem dL_law_564 : decode cL_law 564 = .ok (.aload_n 2, 1) := dk_get dk_d06_696 20 rfl
theorem dL_law_565 : decode cL_law 565 = .ok (.aload_n 0, 1) := dk_get dk_d06_696 21 rfl
theorem dL_law_566 : decode cL_law 566 = .ok (.iload_n 3, 1) := dk_get dk_d06_696 22 rfl
theorem dL_law_567 : decode cL_law 567 = .ok (.iconst 1, 1) := dk_get dk_d06_696 23 rfl
theorem dL_law_568 : decode cL_law 568 = .ok (.iadd, 1) := dk_get dk_d06_696 24 rfl
theorem dk_d06_697 : dkc cL_law [(569, .iaload, 1), (570, .invokevirtual 63, 3), (573, .pop, 1), (574, .goto 783, 3), (577, .aload_n 1, 1), (578, .aload_n 0, 1), (579, .iload_n 3, 1), (580, .iconst 1, 1), (581, .iadd, 1), (582, .iaload, 1), (583, .aload_n 0, 1), (584, .iload_n 3, 1), (585, .iconst 2, 1), (586, .iadd, 1), (587, .iaload, 1), (588, .invokevirtual 64, 3), (591, .pop, 1), (592, .aload_n 2, 1), (593, .aload_n 0, 1), (594, .iload_n 3, 1), (595, .iconst 1, 1), (596, .iadd, 1), (597, .iaload, 1), (598, .aload_n 0, 1), (599, .iload_n 3, 1)] = true := by decide +kernel
theorem dL_law_569 : decode cL_law 569 = .ok (.iaload, 1) := dk_get dk_d06_697 0 rfl
theorem dL_law_570 : decode cL_law 570 = .ok (.invokevirtual 63, 3) := dk_get dk_d06_697 1 rfl
theorem dL_law_573 : decode cL_law 573 = .ok (.pop, 1) := dk_get dk_d06_697 2 rfl
theorem dL_law_574 : decode cL_law 574 = .ok (.goto 783, 3) := dk_get dk_d06_697 3 rfl
theorem dL_law_577 : decode cL_law 577 = .ok (.aload_n 1, 1) := dk_get dk_d06_697 4 rfl
theorem dL_law_578 : decode cL_law 578 = .ok (.aload_n 0, 1) := dk_get dk_d06_697 5 rfl
theorem dL_law_579 : decode cL_law 579 = .ok (.iload_n 3, 1) := dk_get dk_d06_697 6 rfl
theorem dL_law_580 : decode cL_law 580 = .ok (.iconst 1, 1) := dk_get dk_d06_697 7 rfl
theorem dL_law_581 : decode cL_law 581 = .ok (.iadd, 1) := dk_get dk_d06_697 8 rfl
theorem dL_law_582 : decode cL_law 582 = .ok (.iaload, 1) := dk_get dk_d06_697 9 rfl
theorem dL_law_583 : decode cL_law 583 = .ok (.aload_n 0, 1) := dk_get dk_d06_697 10 rfl
theorem dL_law_584 : decode cL_law 584 = .ok (.iload_n 3, 1) := dk_get dk_d06_697 11 rfl
theorem dL_law_585 : decode cL_law 585 = .ok (.iconst 2, 1) := dk_get dk_d06_697 12 rfl
theorem dL_law_586 : decode cL_law 586 = .ok (.iadd, 1) := dk_get dk_d06_697 13 rfl
theorem dL_law_587 : decode cL_law 587 = .ok (.iaload, 1) := dk_get dk_d06_697 14 rfl
theorem dL_law_588 : decode cL_law 588 = .ok (.invokevirtual 64, 3) := dk_get dk_d06_697 15 rfl
theorem dL_law_591 : decode cL_law 591 = .ok (.pop, 1) := dk_get dk_d06_697 16 rfl
theorem dL_law_592 : decode cL_law 592 = .ok (.aload_n 2, 1) := dk_get dk_d06_697 17 rfl
theorem dL_law_593 : decode cL_law 593 = .ok (.aload_n 0, 1) := dk_get dk_d06_697 18 rfl
theorem dL_law_594 : decode cL_law 594 = .ok (.iload_n 3, 1) := dk_get dk_d06_697 19 rfl
theorem dL_law_595 : decode cL_law 595 = .ok (.iconst 1, 1) := dk_get dk_d06_697 20 rfl
theorem dL_law_596 : decode cL_law 596 = .ok (.iadd, 1) := dk_get dk_d06_697 21 rfl
theorem dL_law_597 : decode cL_law 597 = .ok (.iaload, 1) := dk_get dk_d06_697 22 rfl
theorem dL_law_598 : decode cL_law 598 = .ok (.aload_n 0, 1) := dk_get dk_d06_697 23 rfl
theorem dL_law_599 : decode cL_law 599 = .ok (.iload_n 3, 1) := dk_get dk_d06_697 24 rfl
theorem dk_d06_698 : dkc cL_law [(600, .iconst 2, 1), (601, .iadd, 1), (602, .iaload, 1), (603, .invokevirtual 67, 3), (606, .pop, 1), (607, .goto 750, 3), (610, .aload_n 1, 1), (611, .aload_n 0, 1), (612, .iload_n 3, 1), (613, .iconst 1, 1), (614, .iadd, 1), (615, .iaload, 1), (616, .aload_n 0, 1), (617, .iload_n 3, 1), (618, .iconst 2, 1), (619, .iadd, 1), (620, .iaload, 1), (621, .aload_n 0, 1), (622, .iload_n 3, 1), (623, .iconst 3, 1), (624, .iadd, 1), (625, .iaload, 1), (626, .invokevirtual 68, 3), (629, .pop, 1), (630, .aload_n 2, 1)] = true := by decide +kernel
theorem dL_law_600 : decode cL_law 600 = .ok (.iconst 2, 1) := dk_get dk_d06_698 0 rfl
theorem dL_law_601 : decode cL_law 601 = .ok (.iadd, 1) := dk_get dk_d06_698 1 rfl
theorem dL_law_602 : decode cL_law 602 = .ok (.iaload, 1) := dk_get dk_d06_698 2 rfl
theorem dL_law_603 : decode cL_law 603 = .ok (.invokevirtual 67, 3) := dk_get dk_d06_698 3 rfl
theorem dL_law_606 : decode cL_law 606 = .ok (.pop, 1) := dk_get dk_d06_698 4 rfl
theorem dL_law_607 : decode cL_law 607 = .ok (.goto 750, 3) := dk_get dk_d06_698 5 rfl
theorem dL_law_610 : decode cL_law 610 = .ok (.aload_n 1, 1) := dk_get dk_d06_698 6 rfl
theorem dL_law_611 : decode cL_law 611 = .ok (.aload_n 0, 1) := dk_get dk_d06_698 7 rfl
theorem dL_law_612 : decode cL_law 612 = .ok (.iload_n 3, 1) := dk_get dk_d06_698 8 rfl
theorem dL_law_613 : decode cL_law 613 = .ok (.iconst 1, 1) := dk_get dk_d06_698 9 rfl
theorem dL_law_614 : decode cL_law 614 = .ok (.iadd, 1) := dk_get dk_d06_698 10 rfl
theorem dL_law_615 : decode cL_law 615 = .ok (.iaload, 1) := dk_get dk_d06_698 11 rfl
theorem dL_law_616 : decode cL_law 616 = .ok (.aload_n 0, 1) := dk_get dk_d06_698 12 rfl
theorem dL_law_617 : decode cL_law 617 = .ok (.iload_n 3, 1) := dk_get dk_d06_698 13 rfl
theorem dL_law_618 : decode cL_law 618 = .ok (.iconst 2, 1) := dk_get dk_d06_698 14 rfl
theorem dL_law_619 : decode cL_law 619 = .ok (.iadd, 1) := dk_get dk_d06_698 15 rfl
theorem dL_law_620 : decode cL_law 620 = .ok (.iaload, 1) := dk_get dk_d06_698 16 rfl
theorem dL_law_621 : decode cL_law 621 = .ok (.aload_n 0, 1) := dk_get dk_d06_698 17 rfl
theorem dL_law_622 : decode cL_law 622 = .ok (.iload_n 3, 1) := dk_get dk_d06_698 18 rfl
theorem dL_law_623 : decode cL_law 623 = .ok (.iconst 3, 1) := dk_get dk_d06_698 19 rfl
theorem dL_law_624 : decode cL_law 624 = .ok (.iadd, 1) := dk_get dk_d06_698 20 rfl
theorem dL_law_625 : decode cL_law 625 = .ok (.iaload, 1) := dk_get dk_d06_698 21 rfl
theorem dL_law_626 : decode cL_law 626 = .ok (.invokevirtual 68, 3) := dk_get dk_d06_698 22 rfl
theorem dL_law_629 : decode cL_law 629 = .ok (.pop, 1) := dk_get dk_d06_698 23 rfl
theorem dL_law_630 : decode cL_law 630 = .ok (.aload_n 2, 1) := dk_get dk_d06_698 24 rfl
theorem dk_d06_699 : dkc cL_law [(631, .aload_n 0, 1), (632, .iload_n 3, 1), (633, .iconst 1, 1), (634, .iadd, 1), (635, .iaload, 1), (636, .aload_n 0, 1), (637, .iload_n 3, 1), (638, .iconst 2, 1), (639, .iadd, 1), (640, .iaload, 1), (641, .aload_n 0, 1), (642, .iload_n 3, 1), (643, .iconst 3, 1), (644, .iadd, 1), (645, .iaload, 1), (646, .invokevirtual 72, 3), (649, .pop, 1), (650, .goto 707, 3), (653, .aload_n 1, 1), (654, .aload_n 0, 1), (655, .iload_n 3, 1), (656, .iconst 1, 1), (657, .iadd, 1), (658, .iaload, 1), (659, .aload_n 0, 1)] = true := by decide +kernel
theorem dL_law_631 : decode cL_law 631 = .ok (.aload_n 0, 1) := dk_get dk_d06_699 0 rfl
theorem dL_law_632 : decode cL_law 632 = .ok (.iload_n 3, 1) := dk_get dk_d06_699 1 rfl
theorem dL_law_633 : decode cL_law 633 = .ok (.iconst 1, 1) := dk_get dk_d06_699 2 rfl
theorem dL_law_634 : decode cL_law 634 = .ok (.iadd, 1) := dk_get dk_d06_699 3 rfl
theorem dL_law_635 : decode cL_law 635 = .ok (.iaload, 1) := dk_get dk_d06_699 4 rfl
theorem dL_law_636 : decode cL_law 636 = .ok (.aload_n 0, 1) := dk_get dk_d06_699 5 rfl
theorem dL_law_637 : decode cL_law 637 = .ok (.iload_n 3, 1) := dk_get dk_d06_699 6 rfl
theorem dL_law_638 : decode cL_law 638 = .ok (.iconst 2, 1) := dk_get dk_d06_699 7 rfl
theorem dL_law_639 : decode cL_law 639 = .ok (.iadd, 1) := dk_get dk_d06_699 8 rfl
theorem dL_law_640 : decode cL_law 640 = .ok (.iaload, 1) := dk_get dk_d06_699 9 rfl
theorem dL_law_641 : decode cL_law 641 = .ok (.aload_n 0, 1) := dk_get dk_d06_699 10 rfl
theorem dL_law_642 : decode cL_law 642 = .ok (.iload_n 3, 1) := dk_get dk_d06_699 11 rfl
theorem dL_law_643 : decode cL_law 643 = .ok (.iconst 3, 1) := dk_get dk_d06_699 12 rfl
theorem dL_law_644 : decode cL_law 644 = .ok (.iadd, 1) := dk_get dk_d06_699 13 rfl
theorem dL_law_645 : decode cL_law 645 = .ok (.iaload, 1) := dk_get dk_d06_699 14 rfl
theorem dL_law_646 : decode cL_law 646 = .ok (.invokevirtual 72, 3) := dk_get dk_d06_699 15 rfl
theorem dL_law_649 : decode cL_law 649 = .ok (.pop, 1) := dk_get dk_d06_699 16 rfl
theorem dL_law_650 : decode cL_law 650 = .ok (.goto 707, 3) := dk_get dk_d06_699 17 rfl
theorem dL_law_653 : decode cL_law 653 = .ok (.aload_n 1, 1) := dk_get dk_d06_699 18 rfl
theorem dL_law_654 : decode cL_law 654 = .ok (.aload_n 0, 1) := dk_get dk_d06_699 19 rfl
theorem dL_law_655 : decode cL_law 655 = .ok (.iload_n 3, 1) := dk_get dk_d06_699 20 rfl
theorem dL_law_656 : decode cL_law 656 = .ok (.iconst 1, 1) := dk_get dk_d06_699 21 rfl
theorem dL_law_657 : decode cL_law 657 = .ok (.iadd, 1) := dk_get dk_d06_699 22 rfl
theorem dL_law_658 : decode cL_law 658 = .ok (.iaload, 1) := dk_get dk_d06_699 23 rfl
theorem dL_law_659 : decode cL_law 659 = .ok (.aload_n 0, 1) := dk_get dk_d06_699 24 rfl
theorem dk_d06_700 : dkc cL_law [(660, .iload_n 3, 1), (661, .iconst 2, 1), (662, .iadd, 1), (663, .iaload, 1), (664, .invokevirtual 73, 3), (667, .pop, 1), (668, .aload_n 2, 1), (669, .aload_n 0, 1), (670, .iload_n 3, 1), (671, .iconst 1, 1), (672, .iadd, 1), (673, .iaload, 1), (674, .aload_n 0, 1), (675, .iload_n 3, 1), (676, .iconst 2, 1), (677, .iadd, 1), (678, .iaload, 1), (679, .invokevirtual 76, 3), (682, .pop, 1), (683, .goto 674, 3), (686, .aload_n 1, 1), (687, .aload_n 0, 1), (688, .iload_n 3, 1), (689, .iconst 1, 1), (690, .iadd, 1)] = true := by decide +kernel
theorem dL_law_660 : decode cL_law 660 = .ok (.iload_n 3, 1) := dk_get dk_d06_700 0 rfl
theorem dL_law_661 : decode cL_law 661 = .ok (.iconst 2, 1) := dk_get dk_d06_700 1 rfl
theorem dL_law_662 : decode cL_law 662 = .ok (.iadd, 1) := dk_get dk_d06_700 2 rfl
theorem dL_law_663 : decode cL_law 663 = .ok (.iaload, 1) := dk_get dk_d06_700 3 rfl
theorem dL_law_664 : decode cL_law 664 = .ok (.invokevirtual 73, 3) := dk_get dk_d06_700 4 rfl
theorem dL_law_667 : decode cL_law 667 = .ok (.pop, 1) := dk_get dk_d06_700 5 rfl
theorem dL_law_668 : decode cL_law 668 = .ok (.aload_n 2, 1) := dk_get dk_d06_700 6 rfl
theorem dL_law_669 : decode cL_law 669 = .ok (.aload_n 0, 1) := dk_get dk_d06_700 7 rfl
theorem dL_law_670 : decode cL_law 670 = .ok (.iload_n 3, 1) := dk_get dk_d06_700 8 rfl
theorem dL_law_671 : decode cL_law 671 = .ok (.iconst 1, 1) := dk_get dk_d06_700 9 rfl
theorem dL_law_672 : decode cL_law 672 = .ok (.iadd, 1) := dk_get dk_d06_700 10 rfl
theorem dL_law_673 : decode cL_law 673 = .ok (.iaload, 1) := dk_get dk_d06_700 11 rfl
theorem dL_law_674 : decode cL_law 674 = .ok (.aload_n 0, 1) := dk_get dk_d06_700 12 rfl
theorem dL_law_675 : decode cL_law 675 = .ok (.iload_n 3, 1) := dk_get dk_d06_700 13 rfl
theorem dL_law_676 : decode cL_law 676 = .ok (.iconst 2, 1) := dk_get dk_d06_700 14 rfl
theorem dL_law_677 : decode cL_law 677 = .ok (.iadd, 1) := dk_get dk_d06_700 15 rfl
theorem dL_law_678 : decode cL_law 678 = .ok (.iaload, 1) := dk_get dk_d06_700 16 rfl
theorem dL_law_679 : decode cL_law 679 = .ok (.invokevirtual 76, 3) := dk_get dk_d06_700 17 rfl
theorem dL_law_682 : decode cL_law 682 = .ok (.pop, 1) := dk_get dk_d06_700 18 rfl
theorem dL_law_683 : decode cL_law 683 = .ok (.goto 674, 3) := dk_get dk_d06_700 19 rfl
theorem dL_law_686 : decode cL_law 686 = .ok (.aload_n 1, 1) := dk_get dk_d06_700 20 rfl
theorem dL_law_687 : decode cL_law 687 = .ok (.aload_n 0, 1) := dk_get dk_d06_700 21 rfl
theorem dL_law_688 : decode cL_law 688 = .ok (.iload_n 3, 1) := dk_get dk_d06_700 22 rfl
theorem dL_law_689 : decode cL_law 689 = .ok (.iconst 1, 1) := dk_get dk_d06_700 23 rfl
theorem dL_law_690 : decode cL_law 690 = .ok (.iadd, 1) := dk_get dk_d06_700 24 rfl
theorem dk_d06_701 : dkc cL_law [(691, .iaload, 1), (692, .aload_n 0, 1), (693, .iload_n 3, 1), (694, .iconst 2, 1), (695, .iadd, 1), (696, .iaload, 1), (697, .invokevirtual 77, 3), (700, .pop, 1), (701, .aload_n 2, 1), (702, .aload_n 0, 1), (703, .iload_n 3, 1), (704, .iconst 1, 1), (705, .iadd, 1), (706, .iaload, 1), (707, .aload_n 0, 1), (708, .iload_n 3, 1), (709, .iconst 2, 1), (710, .iadd, 1), (711, .iaload, 1), (712, .invokevirtual 80, 3), (715, .pop, 1), (716, .goto 641, 3), (719, .aload_n 1, 1), (720, .aload_n 0, 1), (721, .iload_n 3, 1)] = true := by decide +kernel
theorem dL_law_691 : decode cL_law 691 = .ok (.iaload, 1) := dk_get dk_d06_701 0 rfl
theorem dL_law_692 : decode cL_law 692 = .ok (.aload_n 0, 1) := dk_get dk_d06_701 1 rfl
theorem dL_law_693 : decode cL_law 693 = .ok (.iload_n 3, 1) := dk_get dk_d06_701 2 rfl
theorem dL_law_694 : decode cL_law 694 = .ok (.iconst 2, 1) := dk_get dk_d06_701 3 rfl
theorem dL_law_695 : decode cL_law 695 = .ok (.iadd, 1) := dk_get dk_d06_701 4 rfl
theorem dL_law_696 : decode cL_law 696 = .ok (.iaload, 1) := dk_get dk_d06_701 5 rfl
theorem dL_law_697 : decode cL_law 697 = .ok (.invokevirtual 77, 3) := dk_get dk_d06_701 6 rfl
theorem dL_law_700 : decode cL_law 700 = .ok (.pop, 1) := dk_get dk_d06_701 7 rfl
theorem dL_law_701 : decode cL_law 701 = .ok (.aload_n 2, 1) := dk_get dk_d06_701 8 rfl
theorem dL_law_702 : decode cL_law 702 = .ok (.aload_n 0, 1) := dk_get dk_d06_701 9 rfl
theorem dL_law_703 : decode cL_law 703 = .ok (.iload_n 3, 1) := dk_get dk_d06_701 10 rfl
theorem dL_law_704 : decode cL_law 704 = .ok (.iconst 1, 1) := dk_get dk_d06_701 11 rfl
theorem dL_law_705 : decode cL_law 705 = .ok (.iadd, 1) := dk_get dk_d06_701 12 rfl
theorem dL_law_706 : decode cL_law 706 = .ok (.iaload, 1) := dk_get dk_d06_701 13 rfl
theorem dL_law_707 : decode cL_law 707 = .ok (.aload_n 0, 1) := dk_get dk_d06_701 14 rfl
theorem dL_law_708 : decode cL_law 708 = .ok (.iload_n 3, 1) := dk_get dk_d06_701 15 rfl
theorem dL_law_709 : decode cL_law 709 = .ok (.iconst 2, 1) := dk_get dk_d06_701 16 rfl
theorem dL_law_710 : decode cL_law 710 = .ok (.iadd, 1) := dk_get dk_d06_701 17 rfl
theorem dL_law_711 : decode cL_law 711 = .ok (.iaload, 1) := dk_get dk_d06_701 18 rfl
theorem dL_law_712 : decode cL_law 712 = .ok (.invokevirtual 80, 3) := dk_get dk_d06_701 19 rfl
theorem dL_law_715 : decode cL_law 715 = .ok (.pop, 1) := dk_get dk_d06_701 20 rfl
theorem dL_law_716 : decode cL_law 716 = .ok (.goto 641, 3) := dk_get dk_d06_701 21 rfl
theorem dL_law_719 : decode cL_law 719 = .ok (.aload_n 1, 1) := dk_get dk_d06_701 22 rfl
theorem dL_law_720 : decode cL_law 720 = .ok (.aload_n 0, 1) := dk_get dk_d06_701 23 rfl
theorem dL_law_721 : decode cL_law 721 = .ok (.iload_n 3, 1) := dk_get dk_d06_701 24 rfl
theorem dk_d06_702 : dkc cL_law [(722, .iconst 1, 1), (723, .iadd, 1), (724, .iaload, 1), (725, .invokevirtual 81, 3), (728, .aload_n 2, 1), (729, .aload_n 0, 1), (730, .iload_n 3, 1), (731, .iconst 1, 1), (732, .iadd, 1), (733, .iaload, 1), (734, .invokevirtual 84, 3), (737, .if_icmp .eq 620, 3), (740, .iconst 0, 1), (741, .ireturn, 1), (742, .aload_n 1, 1), (743, .aload_n 0, 1), (744, .iload_n 3, 1), (745, .iconst 1, 1), (746, .iadd, 1), (747, .iaload, 1), (748, .aload_n 0, 1), (749, .iload_n 3, 1), (750, .iconst 2, 1), (751, .iadd, 1), (752, .iaload, 1)] = true := by decide +kernel
theorem dL_law_722 : decode cL_law 722 = .ok (.iconst 1, 1) := dk_get dk_d06_702 0 rfl
theorem dL_law_723 : decode cL_law 723 = .ok (.iadd, 1) := dk_get dk_d06_702 1 rfl
theorem dL_law_724 : decode cL_law 724 = .ok (.iaload, 1) := dk_get dk_d06_702 2 rfl
theorem dL_law_725 : decode cL_law 725 = .ok (.invokevirtual 81, 3) := dk_get dk_d06_702 3 rfl
theorem dL_law_728 : decode cL_law 728 = .ok (.aload_n 2, 1) := dk_get dk_d06_702 4 rfl
theorem dL_law_729 : decode cL_law 729 = .ok (.aload_n 0, 1) := dk_get dk_d06_702 5 rfl
theorem dL_law_730 : decode cL_law 730 = .ok (.iload_n 3, 1) := dk_get dk_d06_702 6 rfl
theorem dL_law_731 : decode cL_law 731 = .ok (.iconst 1, 1) := dk_get dk_d06_702 7 rfl
theorem dL_law_732 : decode cL_law 732 = .ok (.iadd, 1) := dk_get dk_d06_702 8 rfl
theorem dL_law_733 : decode cL_law 733 = .ok (.iaload, 1) := dk_get dk_d06_702 9 rfl
theorem dL_law_734 : decode cL_law 734 = .ok (.invokevirtual 84, 3) := dk_get dk_d06_702 10 rfl
theorem dL_law_737 : decode cL_law 737 = .ok (.if_icmp .eq 620, 3) := dk_get dk_d06_702 11 rfl
theorem dL_law_742 : decode cL_law 742 = .ok (.aload_n 1, 1) := dk_get dk_d06_702 14 rfl
theorem dL_law_743 : decode cL_law 743 = .ok (.aload_n 0, 1) := dk_get dk_d06_702 15 rfl
theorem dL_law_744 : decode cL_law 744 = .ok (.iload_n 3, 1) := dk_get dk_d06_702 16 rfl
theorem dL_law_745 : decode cL_law 745 = .ok (.iconst 1, 1) := dk_get dk_d06_702 17 rfl
theorem dL_law_746 : decode cL_law 746 = .ok (.iadd, 1) := dk_get dk_d06_702 18 rfl
theorem dL_law_747 : decode cL_law 747 = .ok (.iaload, 1) := dk_get dk_d06_702 19 rfl
theorem dL_law_748 : decode cL_law 748 = .ok (.aload_n 0, 1) := dk_get dk_d06_702 20 rfl
theorem dL_law_749 : decode cL_law 749 = .ok (.iload_n 3, 1) := dk_get dk_d06_702 21 rfl
theorem dL_law_750 : decode cL_law 750 = .ok (.iconst 2, 1) := dk_get dk_d06_702 22 rfl
theorem dL_law_751 : decode cL_law 751 = .ok (.iadd, 1) := dk_get dk_d06_702 23 rfl
theorem dL_law_752 : decode cL_law 752 = .ok (.iaload, 1) := dk_get dk_d06_702 24 rfl
theorem dk_d06_703 : dkc cL_law [(753, .invokevirtual 85, 3), (756, .pop, 1), (757, .aload_n 2, 1), (758, .aload_n 0, 1), (759, .iload_n 3, 1), (760, .iconst 1, 1), (761, .iadd, 1), (762, .iaload, 1), (763, .aload_n 0, 1), (764, .iload_n 3, 1), (765, .iconst 2, 1), (766, .iadd, 1), (767, .iaload, 1), (768, .invokevirtual 88, 3), (771, .pop, 1), (772, .goto 585, 3), (775, .aload_n 1, 1), (776, .aload_n 0, 1), (777, .iload_n 3, 1), (778, .iconst 1, 1), (779, .iadd, 1), (780, .iaload, 1), (781, .invokevirtual 89, 3), (784, .pop, 1), (785, .aload_n 2, 1)] = true := by decide +kernel
theorem dL_law_753 : decode cL_law 753 = .ok (.invokevirtual 85, 3) := dk_get dk_d06_703 0 rfl
theorem dL_law_756 : decode cL_law 756 = .ok (.pop, 1) := dk_get dk_d06_703 1 rfl
theorem dL_law_757 : decode cL_law 757 = .ok (.aload_n 2, 1) := dk_get dk_d06_703 2 rfl
theorem dL_law_758 : decode cL_law 758 = .ok (.aload_n 0, 1) := dk_get dk_d06_703 3 rfl
theorem dL_law_759 : decode cL_law 759 = .ok (.iload_n 3, 1) := dk_get dk_d06_703 4 rfl
theorem dL_law_760 : decode cL_law 760 = .ok (.iconst 1, 1) := dk_get dk_d06_703 5 rfl
theorem dL_law_761 : decode cL_law 761 = .ok (.iadd, 1) := dk_get dk_d06_703 6 rfl
theorem dL_law_762 : decode cL_law 762 = .ok (.iaload, 1) := dk_get dk_d06_703 7 rfl
theorem dL_law_763 : decode cL_law 763 = .ok (.aload_n 0, 1) := dk_get dk_d06_703 8 rfl
theorem dL_law_764 : decode cL_law 764 = .ok (.iload_n 3, 1) := dk_get dk_d06_703 9 rfl
theorem dL_law_765 : decode cL_law 765 = .ok (.iconst 2, 1) := dk_get dk_d06_703 10 rfl
theorem dL_law_766 : decode cL_law 766 = .ok (.iadd, 1) := dk_get dk_d06_703 11 rfl
theorem dL_law_767 : decode cL_law 767 = .ok (.iaload, 1) := dk_get dk_d06_703 12 rfl
theorem dL_law_768 : decode cL_law 768 = .ok (.invokevirtual 88, 3) := dk_get dk_d06_703 13 rfl
theorem dL_law_771 : decode cL_law 771 = .ok (.pop, 1) := dk_get dk_d06_703 14 rfl
theorem dL_law_772 : decode cL_law 772 = .ok (.goto 585, 3) := dk_get dk_d06_703 15 rfl
theorem dL_law_775 : decode cL_law 775 = .ok (.aload_n 1, 1) := dk_get dk_d06_703 16 rfl
theorem dL_law_776 : decode cL_law 776 = .ok (.aload_n 0, 1) := dk_get dk_d06_703 17 rfl
theorem dL_law_777 : decode cL_law 777 = .ok (.iload_n 3, 1) := dk_get dk_d06_703 18 rfl
theorem dL_law_778 : decode cL_law 778 = .ok (.iconst 1, 1) := dk_get dk_d06_703 19 rfl
theorem dL_law_779 : decode cL_law 779 = .ok (.iadd, 1) := dk_get dk_d06_703 20 rfl
theorem dL_law_780 : decode cL_law 780 = .ok (.iaload, 1) := dk_get dk_d06_703 21 rfl
theorem dL_law_781 : decode cL_law 781 = .ok (.invokevirtual 89, 3) := dk_get dk_d06_703 22 rfl
theorem dL_law_784 : decode cL_law 784 = .ok (.pop, 1) := dk_get dk_d06_703 23 rfl
theorem dL_law_785 : decode cL_law 785 = .ok (.aload_n 2, 1) := dk_get dk_d06_703 24 rfl
theorem dk_d06_704 : dkc cL_law [(786, .aload_n 0, 1), (787, .iload_n 3, 1), (788, .iconst 1, 1), (789, .iadd, 1), (790, .iaload, 1), (791, .invokevirtual 92, 3), (794, .pop, 1), (795, .goto 562, 3), (798, .aload_n 1, 1), (799, .aload_n 0, 1), (800, .iload_n 3, 1), (801, .iconst 1, 1), (802, .iadd, 1), (803, .iaload, 1), (804, .invokevirtual 93, 3), (807, .pop, 1), (808, .aload_n 2, 1), (809, .aload_n 0, 1), (810, .iload_n 3, 1), (811, .iconst 1, 1), (812, .iadd, 1), (813, .iaload, 1), (814, .invokevirtual 96, 3), (817, .pop, 1), (818, .goto 539, 3)] = true := by decide +kernel
theorem dL_law_786 : decode cL_law 786 = .ok (.aload_n 0, 1) := dk_get dk_d06_704 0 rfl
theorem dL_law_787 : decode cL_law 787 = .ok (.iload_n 3, 1) := dk_get dk_d06_704 1 rfl
theorem dL_law_788 : decode cL_law 788 = .ok (.iconst 1, 1) := dk_get dk_d06_704 2 rfl
theorem dL_law_789 : decode cL_law 789 = .ok (.iadd, 1) := dk_get dk_d06_704 3 rfl
theorem dL_law_790 : decode cL_law 790 = .ok (.iaload, 1) := dk_get dk_d06_704 4 rfl
theorem dL_law_791 : decode cL_law 791 = .ok (.invokevirtual 92, 3) := dk_get dk_d06_704 5 rfl
theorem dL_law_794 : decode cL_law 794 = .ok (.pop, 1) := dk_get dk_d06_704 6 rfl
theorem dL_law_795 : decode cL_law 795 = .ok (.goto 562, 3) := dk_get dk_d06_704 7 rfl
theorem dL_law_798 : decode cL_law 798 = .ok (.aload_n 1, 1) := dk_get dk_d06_704 8 rfl
theorem dL_law_799 : decode cL_law 799 = .ok (.aload_n 0, 1) := dk_get dk_d06_704 9 rfl
theorem dL_law_800 : decode cL_law 800 = .ok (.iload_n 3, 1) := dk_get dk_d06_704 10 rfl
theorem dL_law_801 : decode cL_law 801 = .ok (.iconst 1, 1) := dk_get dk_d06_704 11 rfl
theorem dL_law_802 : decode cL_law 802 = .ok (.iadd, 1) := dk_get dk_d06_704 12 rfl
theorem dL_law_803 : decode cL_law 803 = .ok (.iaload, 1) := dk_get dk_d06_704 13 rfl
theorem dL_law_804 : decode cL_law 804 = .ok (.invokevirtual 93, 3) := dk_get dk_d06_704 14 rfl
theorem dL_law_807 : decode cL_law 807 = .ok (.pop, 1) := dk_get dk_d06_704 15 rfl
theorem dL_law_808 : decode cL_law 808 = .ok (.aload_n 2, 1) := dk_get dk_d06_704 16 rfl
theorem dL_law_809 : decode cL_law 809 = .ok (.aload_n 0, 1) := dk_get dk_d06_704 17 rfl
theorem dL_law_810 : decode cL_law 810 = .ok (.iload_n 3, 1) := dk_get dk_d06_704 18 rfl
theorem dL_law_811 : decode cL_law 811 = .ok (.iconst 1, 1) := dk_get dk_d06_704 19 rfl
theorem dL_law_812 : decode cL_law 812 = .ok (.iadd, 1) := dk_get dk_d06_704 20 rfl
theorem dL_law_813 : decode cL_law 813 = .ok (.iaload, 1) := dk_get dk_d06_704 21 rfl
theorem dL_law_814 : decode cL_law 814 = .ok (.invokevirtual 96, 3) := dk_get dk_d06_704 22 rfl
theorem dL_law_817 : decode cL_law 817 = .ok (.pop, 1) := dk_get dk_d06_704 23 rfl
theorem dL_law_818 : decode cL_law 818 = .ok (.goto 539, 3) := dk_get dk_d06_704 24 rfl
theorem dk_d06_705 : dkc cL_law [(821, .aload_n 1, 1), (822, .aload_n 0, 1), (823, .iload_n 3, 1), (824, .iconst 1, 1), (825, .iadd, 1), (826, .iaload, 1), (827, .aload_n 0, 1), (828, .iload_n 3, 1), (829, .iconst 2, 1), (830, .iadd, 1), (831, .iaload, 1), (832, .aload_n 0, 1), (833, .iload_n 3, 1), (834, .iconst 3, 1), (835, .iadd, 1), (836, .iaload, 1), (837, .invokevirtual 97, 3), (840, .pop, 1), (841, .aload_n 2, 1), (842, .aload_n 0, 1), (843, .iload_n 3, 1), (844, .iconst 1, 1), (845, .iadd, 1), (846, .iaload, 1), (847, .aload_n 0, 1)] = true := by decide +kernel
theorem dL_law_821 : decode cL_law 821 = .ok (.aload_n 1, 1) := dk_get dk_d06_705 0 rfl
theorem dL_law_822 : decode cL_law 822 = .ok (.aload_n 0, 1) := dk_get dk_d06_705 1 rfl
theorem dL_law_823 : decode cL_law 823 = .ok (.iload_n 3, 1) := dk_get dk_d06_705 2 rfl
theorem dL_law_824 : decode cL_law 824 = .ok (.iconst 1, 1) := dk_get dk_d06_705 3 rfl
theorem dL_law_825 : decode cL_law 825 = .ok (.iadd, 1) := dk_get dk_d06_705 4 rfl
theorem dL_law_826 : decode cL_law 826 = .ok (.iaload, 1) := dk_get dk_d06_705 5 rfl
theorem dL_law_827 : decode cL_law 827 = .ok (.aload_n 0, 1) := dk_get dk_d06_705 6 rfl
theorem dL_law_828 : decode cL_law 828 = .ok (.iload_n 3, 1) := dk_get dk_d06_705 7 rfl
theorem dL_law_829 : decode cL_law 829 = .ok (.iconst 2, 1) := dk_get dk_d06_705 8 rfl
theorem dL_law_830 : decode cL_law 830 = .ok (.iadd, 1) := dk_get dk_d06_705 9 rfl
theorem dL_law_831 : decode cL_law 831 = .ok (.iaload, 1) := dk_get dk_d06_705 10 rfl
theorem dL_law_832 : decode cL_law 832 = .ok (.aload_n 0, 1) := dk_get dk_d06_705 11 rfl
theorem dL_law_833 : decode cL_law 833 = .ok (.iload_n 3, 1) := dk_get dk_d06_705 12 rfl
theorem dL_law_834 : decode cL_law 834 = .ok (.iconst 3, 1) := dk_get dk_d06_705 13 rfl
theorem dL_law_835 : decode cL_law 835 = .ok (.iadd, 1) := dk_get dk_d06_705 14 rfl
theorem dL_law_836 : decode cL_law 836 = .ok (.iaload, 1) := dk_get dk_d06_705 15 rfl
theorem dL_law_837 : decode cL_law 837 = .ok (.invokevirtual 97, 3) := dk_get dk_d06_705 16 rfl
theorem dL_law_840 : decode cL_law 840 = .ok (.pop, 1) := dk_get dk_d06_705 17 rfl
theorem dL_law_841 : decode cL_law 841 = .ok (.aload_n 2, 1) := dk_get dk_d06_705 18 rfl
theorem dL_law_842 : decode cL_law 842 = .ok (.aload_n 0, 1) := dk_get dk_d06_705 19 rfl
theorem dL_law_843 : decode cL_law 843 = .ok (.iload_n 3, 1) := dk_get dk_d06_705 20 rfl
theorem dL_law_844 : decode cL_law 844 = .ok (.iconst 1, 1) := dk_get dk_d06_705 21 rfl
theorem dL_law_845 : decode cL_law 845 = .ok (.iadd, 1) := dk_get dk_d06_705 22 rfl
theorem dL_law_846 : decode cL_law 846 = .ok (.iaload, 1) := dk_get dk_d06_705 23 rfl
theorem dL_law_847 : decode cL_law 847 = .ok (.aload_n 0, 1) := dk_get dk_d06_705 24 rfl
theorem dk_d06_706 : dkc cL_law [(848, .iload_n 3, 1), (849, .iconst 2, 1), (850, .iadd, 1), (851, .iaload, 1), (852, .aload_n 0, 1), (853, .iload_n 3, 1), (854, .iconst 3, 1), (855, .iadd, 1), (856, .iaload, 1), (857, .invokevirtual 100, 3), (860, .pop, 1), (861, .goto 496, 3), (864, .aload_n 1, 1), (865, .aload_n 0, 1), (866, .iload_n 3, 1), (867, .iconst 1, 1), (868, .iadd, 1), (869, .iaload, 1), (870, .invokevirtual 101, 3), (873, .pop, 1), (874, .aload_n 2, 1), (875, .aload_n 0, 1), (876, .iload_n 3, 1), (877, .iconst 1, 1), (878, .iadd, 1)] = true := by decide +kernel
theorem dL_law_848 : decode cL_law 848 = .ok (.iload_n 3, 1) := dk_get dk_d06_706 0 rfl
theorem dL_law_849 : decode cL_law 849 = .ok (.iconst 2, 1) := dk_get dk_d06_706 1 rfl
theorem dL_law_850 : decode cL_law 850 = .ok (.iadd, 1) := dk_get dk_d06_706 2 rfl
theorem dL_law_851 : decode cL_law 851 = .ok (.iaload, 1) := dk_get dk_d06_706 3 rfl
theorem dL_law_852 : decode cL_law 852 = .ok (.aload_n 0, 1) := dk_get dk_d06_706 4 rfl
theorem dL_law_853 : decode cL_law 853 = .ok (.iload_n 3, 1) := dk_get dk_d06_706 5 rfl
theorem dL_law_854 : decode cL_law 854 = .ok (.iconst 3, 1) := dk_get dk_d06_706 6 rfl
theorem dL_law_855 : decode cL_law 855 = .ok (.iadd, 1) := dk_get dk_d06_706 7 rfl
theorem dL_law_856 : decode cL_law 856 = .ok (.iaload, 1) := dk_get dk_d06_706 8 rfl
theorem dL_law_857 : decode cL_law 857 = .ok (.invokevirtual 100, 3) := dk_get dk_d06_706 9 rfl
theorem dL_law_860 : decode cL_law 860 = .ok (.pop, 1) := dk_get dk_d06_706 10 rfl
theorem dL_law_861 : decode cL_law 861 = .ok (.goto 496, 3) := dk_get dk_d06_706 11 rfl
theorem dL_law_864 : decode cL_law 864 = .ok (.aload_n 1, 1) := dk_get dk_d06_706 12 rfl
theorem dL_law_865 : decode cL_law 865 = .ok (.aload_n 0, 1) := dk_get dk_d06_706 13 rfl
theorem dL_law_866 : decode cL_law 866 = .ok (.iload_n 3, 1) := dk_get dk_d06_706 14 rfl
theorem dL_law_867 : decode cL_law 867 = .ok (.iconst 1, 1) := dk_get dk_d06_706 15 rfl
theorem dL_law_868 : decode cL_law 868 = .ok (.iadd, 1) := dk_get dk_d06_706 16 rfl
theorem dL_law_869 : decode cL_law 869 = .ok (.iaload, 1) := dk_get dk_d06_706 17 rfl
theorem dL_law_870 : decode cL_law 870 = .ok (.invokevirtual 101, 3) := dk_get dk_d06_706 18 rfl
theorem dL_law_873 : decode cL_law 873 = .ok (.pop, 1) := dk_get dk_d06_706 19 rfl
theorem dL_law_874 : decode cL_law 874 = .ok (.aload_n 2, 1) := dk_get dk_d06_706 20 rfl
theorem dL_law_875 : decode cL_law 875 = .ok (.aload_n 0, 1) := dk_get dk_d06_706 21 rfl
theorem dL_law_876 : decode cL_law 876 = .ok (.iload_n 3, 1) := dk_get dk_d06_706 22 rfl
theorem dL_law_877 : decode cL_law 877 = .ok (.iconst 1, 1) := dk_get dk_d06_706 23 rfl
theorem dL_law_878 : decode cL_law 878 = .ok (.iadd, 1) := dk_get dk_d06_706 24 rfl
theorem dk_d06_707 : dkc cL_law [(879, .iaload, 1), (880, .invokevirtual 104, 3), (883, .pop, 1), (884, .goto 473, 3), (887, .aload_n 1, 1), (888, .aload_n 0, 1), (889, .iload_n 3, 1), (890, .iconst 1, 1), (891, .iadd, 1), (892, .iaload, 1), (893, .aload_n 0, 1), (894, .iload_n 3, 1), (895, .iconst 2, 1), (896, .iadd, 1), (897, .iaload, 1), (898, .invokevirtual 105, 3), (901, .pop, 1), (902, .aload_n 2, 1), (903, .aload_n 0, 1), (904, .iload_n 3, 1), (905, .iconst 1, 1), (906, .iadd, 1), (907, .iaload, 1), (908, .aload_n 0, 1), (909, .iload_n 3, 1)] = true := by decide +kernel
theorem dL_law_879 : decode cL_law 879 = .ok (.iaload, 1) := dk_get dk_d06_707 0 rfl
theorem dL_law_880 : decode cL_law 880 = .ok (.invokevirtual 104, 3) := dk_get dk_d06_707 1 rfl
theorem dL_law_883 : decode cL_law 883 = .ok (.pop, 1) := dk_get dk_d06_707 2 rfl
theorem dL_law_884 : decode cL_law 884 = .ok (.goto 473, 3) := dk_get dk_d06_707 3 rfl
theorem dL_law_887 : decode cL_law 887 = .ok (.aload_n 1, 1) := dk_get dk_d06_707 4 rfl
theorem dL_law_888 : decode cL_law 888 = .ok (.aload_n 0, 1) := dk_get dk_d06_707 5 rfl
theorem dL_law_889 : decode cL_law 889 = .ok (.iload_n 3, 1) := dk_get dk_d06_707 6 rfl
theorem dL_law_890 : decode cL_law 890 = .ok (.iconst 1, 1) := dk_get dk_d06_707 7 rfl
theorem dL_law_891 : decode cL_law 891 = .ok (.iadd, 1) := dk_get dk_d06_707 8 rfl
theorem dL_law_892 : decode cL_law 892 = .ok (.iaload, 1) := dk_get dk_d06_707 9 rfl
theorem dL_law_893 : decode cL_law 893 = .ok (.aload_n 0, 1) := dk_get dk_d06_707 10 rfl
theorem dL_law_894 : decode cL_law 894 = .ok (.iload_n 3, 1) := dk_get dk_d06_707 11 rfl
theorem dL_law_895 : decode cL_law 895 = .ok (.iconst 2, 1) := dk_get dk_d06_707 12 rfl
theorem dL_law_896 : decode cL_law 896 = .ok (.iadd, 1) := dk_get dk_d06_707 13 rfl
theorem dL_law_897 : decode cL_law 897 = .ok (.iaload, 1) := dk_get dk_d06_707 14 rfl
theorem dL_law_898 : decode cL_law 898 = .ok (.invokevirtual 105, 3) := dk_get dk_d06_707 15 rfl
theorem dL_law_901 : decode cL_law 901 = .ok (.pop, 1) := dk_get dk_d06_707 16 rfl
theorem dL_law_902 : decode cL_law 902 = .ok (.aload_n 2, 1) := dk_get dk_d06_707 17 rfl
theorem dL_law_903 : decode cL_law 903 = .ok (.aload_n 0, 1) := dk_get dk_d06_707 18 rfl
theorem dL_law_904 : decode cL_law 904 = .ok (.iload_n 3, 1) := dk_get dk_d06_707 19 rfl
theorem dL_law_905 : decode cL_law 905 = .ok (.iconst 1, 1) := dk_get dk_d06_707 20 rfl
theorem dL_law_906 : decode cL_law 906 = .ok (.iadd, 1) := dk_get dk_d06_707 21 rfl
theorem dL_law_907 : decode cL_law 907 = .ok (.iaload, 1) := dk_get dk_d06_707 22 rfl
theorem dL_law_908 : decode cL_law 908 = .ok (.aload_n 0, 1) := dk_get dk_d06_707 23 rfl
theorem dL_law_909 : decode cL_law 909 = .ok (.iload_n 3, 1) := dk_get dk_d06_707 24 rfl
theorem dk_d06_708 : dkc cL_law [(910, .iconst 2, 1), (911, .iadd, 1), (912, .iaload, 1), (913, .invokevirtual 108, 3), (916, .pop, 1), (917, .goto 440, 3), (920, .aload_n 1, 1), (921, .aload_n 0, 1), (922, .iload_n 3, 1), (923, .iconst 1, 1), (924, .iadd, 1), (925, .iaload, 1), (926, .invokevirtual 109, 3), (929, .pop, 1), (930, .aload_n 2, 1), (931, .aload_n 0, 1), (932, .iload_n 3, 1), (933, .iconst 1, 1), (934, .iadd, 1), (935, .iaload, 1), (936, .invokevirtual 112, 3), (939, .pop, 1), (940, .goto 417, 3), (943, .aload_n 1, 1), (944, .aload_n 0, 1)] = true := by decide +kernel
theorem dL_law_910 : decode cL_law 910 = .ok (.iconst 2, 1) := dk_get dk_d06_708 0 rfl
theorem dL_law_911 : decode cL_law 911 = .ok (.iadd, 1) := dk_get dk_d06_708 1 rfl
theorem dL_law_912 : decode cL_law 912 = .ok (.iaload, 1) := dk_get dk_d06_708 2 rfl
theorem dL_law_913 : decode cL_law 913 = .ok (.invokevirtual 108, 3) := dk_get dk_d06_708 3 rfl
theorem dL_law_916 : decode cL_law 916 = .ok (.pop, 1) := dk_get dk_d06_708 4 rfl
theorem dL_law_917 : decode cL_law 917 = .ok (.goto 440, 3) := dk_get dk_d06_708 5 rfl
theorem dL_law_920 : decode cL_law 920 = .ok (.aload_n 1, 1) := dk_get dk_d06_708 6 rfl
theorem dL_law_921 : decode cL_law 921 = .ok (.aload_n 0, 1) := dk_get dk_d06_708 7 rfl
theorem dL_law_922 : decode cL_law 922 = .ok (.iload_n 3, 1) := dk_get dk_d06_708 8 rfl
theorem dL_law_923 : decode cL_law 923 = .ok (.iconst 1, 1) := dk_get dk_d06_708 9 rfl
theorem dL_law_924 : decode cL_law 924 = .ok (.iadd, 1) := dk_get dk_d06_708 10 rfl
theorem dL_law_925 : decode cL_law 925 = .ok (.iaload, 1) := dk_get dk_d06_708 11 rfl
theorem dL_law_926 : decode cL_law 926 = .ok (.invokevirtual 109, 3) := dk_get dk_d06_708 12 rfl
theorem dL_law_929 : decode cL_law 929 = .ok (.pop, 1) := dk_get dk_d06_708 13 rfl
theorem dL_law_930 : decode cL_law 930 = .ok (.aload_n 2, 1) := dk_get dk_d06_708 14 rfl
theorem dL_law_931 : decode cL_law 931 = .ok (.aload_n 0, 1) := dk_get dk_d06_708 15 rfl
theorem dL_law_932 : decode cL_law 932 = .ok (.iload_n 3, 1) := dk_get dk_d06_708 16 rfl
theorem dL_law_933 : decode cL_law 933 = .ok (.iconst 1, 1) := dk_get dk_d06_708 17 rfl
theorem dL_law_934 : decode cL_law 934 = .ok (.iadd, 1) := dk_get dk_d06_708 18 rfl
theorem dL_law_935 : decode cL_law 935 = .ok (.iaload, 1) := dk_get dk_d06_708 19 rfl
theorem dL_law_936 : decode cL_law 936 = .ok (.invokevirtual 112, 3) := dk_get dk_d06_708 20 rfl
theorem dL_law_939 : decode cL_law 939 = .ok (.pop, 1) := dk_get dk_d06_708 21 rfl
theorem dL_law_940 : decode cL_law 940 = .ok (.goto 417, 3) := dk_get dk_d06_708 22 rfl
theorem dL_law_943 : decode cL_law 943 = .ok (.aload_n 1, 1) := dk_get dk_d06_708 23 rfl
theorem dL_law_944 : decode cL_law 944 = .ok (.aload_n 0, 1) := dk_get dk_d06_708 24 rfl
theorem dk_d06_709 : dkc cL_law [(945, .iload_n 3, 1), (946, .iconst 1, 1), (947, .iadd, 1), (948, .iaload, 1), (949, .invokevirtual 113, 3), (952, .pop, 1), (953, .aload_n 2, 1), (954, .aload_n 0, 1), (955, .iload_n 3, 1), (956, .iconst 1, 1), (957, .iadd, 1), (958, .iaload, 1), (959, .invokevirtual 116, 3), (962, .pop, 1), (963, .goto 394, 3), (966, .aload_n 1, 1), (967, .aload_n 0, 1), (968, .iload_n 3, 1), (969, .iconst 1, 1), (970, .iadd, 1), (971, .iaload, 1), (972, .invokevirtual 117, 3), (975, .pop, 1), (976, .aload_n 2, 1), (977, .aload_n 0, 1)] = true := by decide +kernel
theorem dL_law_945 : decode cL_law 945 = .ok (.iload_n 3, 1) := dk_get dk_d06_709 0 rfl
theorem dL_law_946 : decode cL_law 946 = .ok (.iconst 1, 1) := dk_get dk_d06_709 1 rfl
theorem dL_law_947 : decode cL_law 947 = .ok (.iadd, 1) := dk_get dk_d06_709 2 rfl
theorem dL_law_948 : decode cL_law 948 = .ok (.iaload, 1) := dk_get dk_d06_709 3 rfl
theorem dL_law_949 : decode cL_law 949 = .ok (.invokevirtual 113, 3) := dk_get dk_d06_709 4 rfl
theorem dL_law_952 : decode cL_law 952 = .ok (.pop, 1) := dk_get dk_d06_709 5 rfl
theorem dL_law_953 : decode cL_law 953 = .ok (.aload_n 2, 1) := dk_get dk_d06_709 6 rfl
theorem dL_law_954 : decode cL_law 954 = .ok (.aload_n 0, 1) := dk_get dk_d06_709 7 rfl
theorem dL_law_955 : decode cL_law 955 = .ok (.iload_n 3, 1) := dk_get dk_d06_709 8 rfl
theorem dL_law_956 : decode cL_law 956 = .ok (.iconst 1, 1) := dk_get dk_d06_709 9 rfl
theorem dL_law_957 : decode cL_law 957 = .ok (.iadd, 1) := dk_get dk_d06_709 10 rfl
theorem dL_law_958 : decode cL_law 958 = .ok (.iaload, 1) := dk_get dk_d06_709 11 rfl
theorem dL_law_959 : decode cL_law 959 = .ok (.invokevirtual 116, 3) := dk_get dk_d06_709 12 rfl
theorem dL_law_962 : decode cL_law 962 = .ok (.pop, 1) := dk_get dk_d06_709 13 rfl
theorem dL_law_963 : decode cL_law 963 = .ok (.goto 394, 3) := dk_get dk_d06_709 14 rfl
theorem dL_law_966 : decode cL_law 966 = .ok (.aload_n 1, 1) := dk_get dk_d06_709 15 rfl
theorem dL_law_967 : decode cL_law 967 = .ok (.aload_n 0, 1) := dk_get dk_d06_709 16 rfl
theorem dL_law_968 : decode cL_law 968 = .ok (.iload_n 3, 1) := dk_get dk_d06_709 17 rfl
theorem dL_law_969 : decode cL_law 969 = .ok (.iconst 1, 1) := dk_get dk_d06_709 18 rfl
theorem dL_law_970 : decode cL_law 970 = .ok (.iadd, 1) := dk_get dk_d06_709 19 rfl
theorem dL_law_971 : decode cL_law 971 = .ok (.iaload, 1) := dk_get dk_d06_709 20 rfl
theorem dL_law_972 : decode cL_law 972 = .ok (.invokevirtual 117, 3) := dk_get dk_d06_709 21 rfl
theorem dL_law_975 : decode cL_law 975 = .ok (.pop, 1) := dk_get dk_d06_709 22 rfl
theorem dL_law_976 : decode cL_law 976 = .ok (.aload_n 2, 1) := dk_get dk_d06_709 23 rfl
theorem dL_law_977 : decode cL_law 977 = .ok (.aload_n 0, 1) := dk_get dk_d06_709 24 rfl
theorem dk_d06_710 : dkc cL_law [(978, .iload_n 3, 1), (979, .iconst 1, 1), (980, .iadd, 1), (981, .iaload, 1), (982, .invokevirtual 120, 3), (985, .pop, 1), (986, .goto 371, 3), (989, .aload_n 1, 1), (990, .aload_n 0, 1), (991, .iload_n 3, 1), (992, .iconst 1, 1), (993, .iadd, 1), (994, .iaload, 1), (995, .invokevirtual 121, 3), (998, .pop, 1), (999, .aload_n 2, 1), (1000, .aload_n 0, 1), (1001, .iload_n 3, 1), (1002, .iconst 1, 1), (1003, .iadd, 1), (1004, .iaload, 1), (1005, .invokevirtual 124, 3), (1008, .pop, 1), (1009, .goto 348, 3), (1012, .aload_n 1, 1)] = true := by decide +kernel
theorem dL_law_978 : decode cL_law 978 = .ok (.iload_n 3, 1) := dk_get dk_d06_710 0 rfl
theorem dL_law_979 : decode cL_law 979 = .ok (.iconst 1, 1) := dk_get dk_d06_710 1 rfl
theorem dL_law_980 : decode cL_law 980 = .ok (.iadd, 1) := dk_get dk_d06_710 2 rfl
theorem dL_law_981 : decode cL_law 981 = .ok (.iaload, 1) := dk_get dk_d06_710 3 rfl
theorem dL_law_982 : decode cL_law 982 = .ok (.invokevirtual 120, 3) := dk_get dk_d06_710 4 rfl
theorem dL_law_985 : decode cL_law 985 = .ok (.pop, 1) := dk_get dk_d06_710 5 rfl
theorem dL_law_986 : decode cL_law 986 = .ok (.goto 371, 3) := dk_get dk_d06_710 6 rfl
theorem dL_law_989 : decode cL_law 989 = .ok (.aload_n 1, 1) := dk_get dk_d06_710 7 rfl
theorem dL_law_990 : decode cL_law 990 = .ok (.aload_n 0, 1) := dk_get dk_d06_710 8 rfl
theorem dL_law_991 : decode cL_law 991 = .ok (.iload_n 3, 1) := dk_get dk_d06_710 9 rfl
theorem dL_law_992 : decode cL_law 992 = .ok (.iconst 1, 1) := dk_get dk_d06_710 10 rfl
theorem dL_law_993 : decode cL_law 993 = .ok (.iadd, 1) := dk_get dk_d06_710 11 rfl
theorem dL_law_994 : decode cL_law 994 = .ok (.iaload, 1) := dk_get dk_d06_710 12 rfl
theorem dL_law_995 : decode cL_law 995 = .ok (.invokevirtual 121, 3) := dk_get dk_d06_710 13 rfl
theorem dL_law_998 : decode cL_law 998 = .ok (.pop, 1) := dk_get dk_d06_710 14 rfl
theorem dL_law_999 : decode cL_law 999 = .ok (.aload_n 2, 1) := dk_get dk_d06_710 15 rfl
theorem dL_law_1000 : decode cL_law 1000 = .ok (.aload_n 0, 1) := dk_get dk_d06_710 16 rfl
theorem dL_law_1001 : decode cL_law 1001 = .ok (.iload_n 3, 1) := dk_get dk_d06_710 17 rfl
theorem dL_law_1002 : decode cL_law 1002 = .ok (.iconst 1, 1) := dk_get dk_d06_710 18 rfl
theorem dL_law_1003 : decode cL_law 1003 = .ok (.iadd, 1) := dk_get dk_d06_710 19 rfl
theorem dL_law_1004 : decode cL_law 1004 = .ok (.iaload, 1) := dk_get dk_d06_710 20 rfl
theorem dL_law_1005 : decode cL_law 1005 = .ok (.invokevirtual 124, 3) := dk_get dk_d06_710 21 rfl
theorem dL_law_1008 : decode cL_law 1008 = .ok (.pop, 1) := dk_get dk_d06_710 22 rfl
theorem dL_law_1009 : decode cL_law 1009 = .ok (.goto 348, 3) := dk_get dk_d06_710 23 rfl
theorem dL_law_1012 : decode cL_law 1012 = .ok (.aload_n 1, 1) := dk_get dk_d06_710 24 rfl
theorem dk_d06_711 : dkc cL_law [(1013, .aload_n 0, 1), (1014, .iload_n 3, 1), (1015, .iconst 1, 1), (1016, .iadd, 1), (1017, .iaload, 1), (1018, .aload_n 0, 1), (1019, .iload_n 3, 1), (1020, .iconst 2, 1), (1021, .iadd, 1), (1022, .iaload, 1), (1023, .invokevirtual 125, 3), (1026, .pop, 1), (1027, .aload_n 2, 1), (1028, .aload_n 0, 1), (1029, .iload_n 3, 1), (1030, .iconst 1, 1), (1031, .iadd, 1), (1032, .iaload, 1), (1033, .aload_n 0, 1), (1034, .iload_n 3, 1), (1035, .iconst 2, 1), (1036, .iadd, 1), (1037, .iaload, 1), (1038, .invokevirtual 128, 3), (1041, .pop, 1)] = true := by decide +kernel
theorem dL_law_1013 : decode cL_law 1013 = .ok (.aload_n 0, 1) := dk_get dk_d06_711 0 rfl
theorem dL_law_1014 : decode cL_law 1014 = .ok (.iload_n 3, 1) := dk_get dk_d06_711 1 rfl
theorem dL_law_1015 : decode cL_law 1015 = .ok (.iconst 1, 1) := dk_get dk_d06_711 2 rfl
theorem dL_law_1016 : decode cL_law 1016 = .ok (.iadd, 1) := dk_get dk_d06_711 3 rfl
theorem dL_law_1017 : decode cL_law 1017 = .ok (.iaload, 1) := dk_get dk_d06_711 4 rfl
theorem dL_law_1018 : decode cL_law 1018 = .ok (.aload_n 0, 1) := dk_get dk_d06_711 5 rfl
theorem dL_law_1019 : decode cL_law 1019 = .ok (.iload_n 3, 1) := dk_get dk_d06_711 6 rfl
theorem dL_law_1020 : decode cL_law 1020 = .ok (.iconst 2, 1) := dk_get dk_d06_711 7 rfl
theorem dL_law_1021 : decode cL_law 1021 = .ok (.iadd, 1) := dk_get dk_d06_711 8 rfl
theorem dL_law_1022 : decode cL_law 1022 = .ok (.iaload, 1) := dk_get dk_d06_711 9 rfl
theorem dL_law_1023 : decode cL_law 1023 = .ok (.invokevirtual 125, 3) := dk_get dk_d06_711 10 rfl
theorem dL_law_1026 : decode cL_law 1026 = .ok (.pop, 1) := dk_get dk_d06_711 11 rfl
theorem dL_law_1027 : decode cL_law 1027 = .ok (.aload_n 2, 1) := dk_get dk_d06_711 12 rfl
theorem dL_law_1028 : decode cL_law 1028 = .ok (.aload_n 0, 1) := dk_get dk_d06_711 13 rfl
theorem dL_law_1029 : decode cL_law 1029 = .ok (.iload_n 3, 1) := dk_get dk_d06_711 14 rfl
theorem dL_law_1030 : decode cL_law 1030 = .ok (.iconst 1, 1) := dk_get dk_d06_711 15 rfl
theorem dL_law_1031 : decode cL_law 1031 = .ok (.iadd, 1) := dk_get dk_d06_711 16 rfl
theorem dL_law_1032 : decode cL_law 1032 = .ok (.iaload, 1) := dk_get dk_d06_711 17 rfl
theorem dL_law_1033 : decode cL_law 1033 = .ok (.aload_n 0, 1) := dk_get dk_d06_711 18 rfl
theorem dL_law_1034 : decode cL_law 1034 = .ok (.iload_n 3, 1) := dk_get dk_d06_711 19 rfl
theorem dL_law_1035 : decode cL_law 1035 = .ok (.iconst 2, 1) := dk_get dk_d06_711 20 rfl
theorem dL_law_1036 : decode cL_law 1036 = .ok (.iadd, 1) := dk_get dk_d06_711 21 rfl
theorem dL_law_1037 : decode cL_law 1037 = .ok (.iaload, 1) := dk_get dk_d06_711 22 rfl
theorem dL_law_1038 : decode cL_law 1038 = .ok (.invokevirtual 128, 3) := dk_get dk_d06_711 23 rfl
theorem dL_law_1041 : decode cL_law 1041 = .ok (.pop, 1) := dk_get dk_d06_711 24 rfl
theorem dk_d06_712 : dkc cL_law [(1042, .goto 315, 3), (1045, .aload_n 1, 1), (1046, .aload_n 0, 1), (1047, .iload_n 3, 1), (1048, .iconst 1, 1), (1049, .iadd, 1), (1050, .iaload, 1), (1051, .aload_n 0, 1), (1052, .iload_n 3, 1), (1053, .iconst 2, 1), (1054, .iadd, 1), (1055, .iaload, 1), (1056, .invokevirtual 129, 3), (1059, .pop, 1), (1060, .aload_n 2, 1), (1061, .aload_n 0, 1), (1062, .iload_n 3, 1), (1063, .iconst 1, 1), (1064, .iadd, 1), (1065, .iaload, 1), (1066, .aload_n 0, 1), (1067, .iload_n 3, 1), (1068, .iconst 2, 1), (1069, .iadd, 1), (1070, .iaload, 1)] = true := by decide +kernel
theorem dL_law_1042 : decode cL_law 1042 = .ok (.goto 315, 3) := dk_get dk_d06_712 0 rfl
theorem dL_law_1045 : decode cL_law 1045 = .ok (.aload_n 1, 1) := dk_get dk_d06_712 1 rfl
theorem dL_law_1046 : decode cL_law 1046 = .ok (.aload_n 0, 1) := dk_get dk_d06_712 2 rfl
theorem dL_law_1047 : decode cL_law 1047 = .ok (.iload_n 3, 1) := dk_get dk_d06_712 3 rfl
theorem dL_law_1048 : decode cL_law 1048 = .ok (.iconst 1, 1) := dk_get dk_d06_712 4 rfl
theorem dL_law_1049 : decode cL_law 1049 = .ok (.iadd, 1) := dk_get dk_d06_712 5 rfl
theorem dL_law_1050 : decode cL_law 1050 = .ok (.iaload, 1) := dk_get dk_d06_712 6 rfl
theorem dL_law_1051 : decode cL_law 1051 = .ok (.aload_n 0, 1) := dk_get dk_d06_712 7 rfl
theorem dL_law_1052 : decode cL_law 1052 = .ok (.iload_n 3, 1) := dk_get dk_d06_712 8 rfl
theorem dL_law_1053 : decode cL_law 1053 = .ok (.iconst 2, 1) := dk_get dk_d06_712 9 rfl
theorem dL_law_1054 : decode cL_law 1054 = .ok (.iadd, 1) := dk_get dk_d06_712 10 rfl
theorem dL_law_1055 : decode cL_law 1055 = .ok (.iaload, 1) := dk_get dk_d06_712 11 rfl
theorem dL_law_1056 : decode cL_law 1056 = .ok (.invokevirtual 129, 3) := dk_get dk_d06_712 12 rfl
theorem dL_law_1059 : decode cL_law 1059 = .ok (.pop, 1) := dk_get dk_d06_712 13 rfl
theorem dL_law_1060 : decode cL_law 1060 = .ok (.aload_n 2, 1) := dk_get dk_d06_712 14 rfl
theorem dL_law_1061 : decode cL_law 1061 = .ok (.aload_n 0, 1) := dk_get dk_d06_712 15 rfl
theorem dL_law_1062 : decode cL_law 1062 = .ok (.iload_n 3, 1) := dk_get dk_d06_712 16 rfl
theorem dL_law_1063 : decode cL_law 1063 = .ok (.iconst 1, 1) := dk_get dk_d06_712 17 rfl
theorem dL_law_1064 : decode cL_law 1064 = .ok (.iadd, 1) := dk_get dk_d06_712 18 rfl
theorem dL_law_1065 : decode cL_law 1065 = .ok (.iaload, 1) := dk_get dk_d06_712 19 rfl
theorem dL_law_1066 : decode cL_law 1066 = .ok (.aload_n 0, 1) := dk_get dk_d06_712 20 rfl
theorem dL_law_1067 : decode cL_law 1067 = .ok (.iload_n 3, 1) := dk_get dk_d06_712 21 rfl
theorem dL_law_1068 : decode cL_law 1068 = .ok (.iconst 2, 1) := dk_get dk_d06_712 22 rfl
theorem dL_law_1069 : decode cL_law 1069 = .ok (.iadd, 1) := dk_get dk_d06_712 23 rfl
theorem dL_law_1070 : decode cL_law 1070 = .ok (.iaload, 1) := dk_get dk_d06_712 24 rfl
theorem dk_d06_713 : dkc cL_law [(1071, .invokevirtual 132, 3), (1074, .pop, 1), (1075, .goto 282, 3), (1078, .aload_n 1, 1), (1079, .invokevirtual 133, 3), (1082, .pop, 1), (1083, .aload_n 2, 1), (1084, .invokevirtual 137, 3), (1087, .pop, 1), (1088, .goto 269, 3), (1091, .aload_n 1, 1), (1092, .aload_n 0, 1), (1093, .iload_n 3, 1), (1094, .iconst 1, 1), (1095, .iadd, 1), (1096, .iaload, 1), (1097, .invokevirtual 138, 3), (1100, .pop, 1), (1101, .aload_n 2, 1), (1102, .aload_n 0, 1), (1103, .iload_n 3, 1), (1104, .iconst 1, 1), (1105, .iadd, 1), (1106, .iaload, 1), (1107, .invokevirtual 141, 3)] = true := by decide +kernel
theorem dL_law_1071 : decode cL_law 1071 = .ok (.invokevirtual 132, 3) := dk_get dk_d06_713 0 rfl
theorem dL_law_1074 : decode cL_law 1074 = .ok (.pop, 1) := dk_get dk_d06_713 1 rfl
theorem dL_law_1075 : decode cL_law 1075 = .ok (.goto 282, 3) := dk_get dk_d06_713 2 rfl
theorem dL_law_1078 : decode cL_law 1078 = .ok (.aload_n 1, 1) := dk_get dk_d06_713 3 rfl
theorem dL_law_1079 : decode cL_law 1079 = .ok (.invokevirtual 133, 3) := dk_get dk_d06_713 4 rfl
theorem dL_law_1082 : decode cL_law 1082 = .ok (.pop, 1) := dk_get dk_d06_713 5 rfl
theorem dL_law_1083 : decode cL_law 1083 = .ok (.aload_n 2, 1) := dk_get dk_d06_713 6 rfl
theorem dL_law_1084 : decode cL_law 1084 = .ok (.invokevirtual 137, 3) := dk_get dk_d06_713 7 rfl
theorem dL_law_1087 : decode cL_law 1087 = .ok (.pop, 1) := dk_get dk_d06_713 8 rfl
theorem dL_law_1088 : decode cL_law 1088 = .ok (.goto 269, 3) := dk_get dk_d06_713 9 rfl
theorem dL_law_1091 : decode cL_law 1091 = .ok (.aload_n 1, 1) := dk_get dk_d06_713 10 rfl
theorem dL_law_1092 : decode cL_law 1092 = .ok (.aload_n 0, 1) := dk_get dk_d06_713 11 rfl
theorem dL_law_1093 : decode cL_law 1093 = .ok (.iload_n 3, 1) := dk_get dk_d06_713 12 rfl
theorem dL_law_1094 : decode cL_law 1094 = .ok (.iconst 1, 1) := dk_get dk_d06_713 13 rfl
theorem dL_law_1095 : decode cL_law 1095 = .ok (.iadd, 1) := dk_get dk_d06_713 14 rfl
theorem dL_law_1096 : decode cL_law 1096 = .ok (.iaload, 1) := dk_get dk_d06_713 15 rfl
theorem dL_law_1097 : decode cL_law 1097 = .ok (.invokevirtual 138, 3) := dk_get dk_d06_713 16 rfl
theorem dL_law_1100 : decode cL_law 1100 = .ok (.pop, 1) := dk_get dk_d06_713 17 rfl
theorem dL_law_1101 : decode cL_law 1101 = .ok (.aload_n 2, 1) := dk_get dk_d06_713 18 rfl
theorem dL_law_1102 : decode cL_law 1102 = .ok (.aload_n 0, 1) := dk_get dk_d06_713 19 rfl
theorem dL_law_1103 : decode cL_law 1103 = .ok (.iload_n 3, 1) := dk_get dk_d06_713 20 rfl
theorem dL_law_1104 : decode cL_law 1104 = .ok (.iconst 1, 1) := dk_get dk_d06_713 21 rfl
theorem dL_law_1105 : decode cL_law 1105 = .ok (.iadd, 1) := dk_get dk_d06_713 22 rfl
theorem dL_law_1106 : decode cL_law 1106 = .ok (.iaload, 1) := dk_get dk_d06_713 23 rfl
theorem dL_law_1107 : decode cL_law 1107 = .ok (.invokevirtual 141, 3) := dk_get dk_d06_713 24 rfl
theorem dk_d06_714 : dkc cL_law [(1110, .pop, 1), (1111, .goto 246, 3), (1114, .aload_n 1, 1), (1115, .aload_n 0, 1), (1116, .iload_n 3, 1), (1117, .iconst 1, 1), (1118, .iadd, 1), (1119, .iaload, 1)] = true := by decide +kernel
theorem dL_law_1110 : decode cL_law 1110 = .ok (.pop, 1) := dk_get dk_d06_714 0 rfl
theorem dL_law_1111 : decode cL_law 1111 = .ok (.goto 246, 3) := dk_get dk_d06_714 1 rfl
theorem dL_law_1114 : decode cL_law 1114 = .ok (.aload_n 1, 1) := dk_get dk_d06_714 2 rfl
theorem dL_law_1115 : decode cL_law 1115 = .ok (.aload_n 0, 1) := dk_get dk_d06_714 3 rfl
theorem dL_law_1116 : decode cL_law 1116 = .ok (.iload_n 3, 1) := dk_get dk_d06_714 4 rfl
theorem dL_law_1117 : decode cL_law 1117 = .ok (.iconst 1, 1) := dk_get dk_d06_714 5 rfl
theorem dL_law_1118 : decode cL_law 1118 = .ok (.iadd, 1) := dk_get dk_d06_714 6 rfl
theorem dL_law_1119 : decode cL_law 1119 = .ok (.iaload, 1) := dk_get dk_d06_714 7 rfl
